/** Nothing is heard any more. */
public final class Promise16ForgetTest {
    public static void main(String[] args) {
        Due due = new Due();
        ColdDepots x = new ColdDepots();
        due.due("forget() without a camp", x.forget(), 0);
        Due.type(x, "mm;00000");
        x.camp();
        due.due("forget() of nothing", x.forget(), 0);
        for (int many = 1; many <= 6; many++) {
            x.hear(1, 1, 0, true);
        }
        due.due("LAY of what can't be", x.cairn(2, 1), 0);
        due.due("forget()", x.forget(), 6);
        due.due("count(7)", x.count(7), 0);
        due.due("LAY", x.cairn(2, 1), 1023);
        due.due("forget() again", x.forget(), 0);
        due.due("hear() then", x.hear(1, 2, 3, true), 1);
        due.due("LAY of what is heard then", x.cairn(1, 1), 1022);
        due.end();
    }
}
