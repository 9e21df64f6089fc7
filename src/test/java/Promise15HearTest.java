/** What is heard. */
public final class Promise15HearTest {
    public static void main(String[] args) {
        Due due = new Due();
        ColdDepots x = Due.camp("mmm;00000");
        int[] nobody = {0, 8, -1, Integer.MIN_VALUE, Integer.MAX_VALUE};
        for (int members : nobody) {
            due.due("hear(" + members + ", 1, 1, true)", x.hear(members, 1, 1, true), ColdDepots.OUTSIDE);
        }
        due.due("hear(1, 0, 1, true)", x.hear(1, 0, 1, true), ColdDepots.OUTSIDE);
        due.due("hear(1, 7, 1, true)", x.hear(1, 7, 1, true), ColdDepots.OUTSIDE);
        due.due("hear(1, 1, -1, true)", x.hear(1, 1, -1, true), ColdDepots.OUTSIDE);
        due.due("hear(1, 1, 41, true)", x.hear(1, 1, 41, true), ColdDepots.OUTSIDE);
        due.due("hear without a camp", new ColdDepots().hear(1, 1, 1, true), ColdDepots.OUTSIDE);
        due.due("count(7) behind refusals", x.count(7), 0);
        due.due("hear(7, 6, 40, false)", x.hear(7, 6, 40, false), 1);
        due.due("LAY behind what is always so", x.cairn(1, 1), 1023);
        x.march(2, 6, 0);
        due.due("hear(2, 2, 3, true) of one that died", x.hear(2, 2, 3, true), 2);
        due.due("LAY of who died", x.cairn(1, 1), 1022);
        due.due("hear(2, 2, 2, false)", x.hear(2, 2, 2, false), 3);
        due.due("hear(3, 2, 6, true)", x.hear(3, 2, 6, true), 4);
        due.due("LAY of all that is heard", x.cairn(1, 1), 1020);
        due.due("hear(3, 2, 6, true), of the same", x.hear(3, 2, 6, true), 5);
        due.due("hear(1, 1, 0, false)", x.hear(1, 1, 0, false), 6);
        due.due("hear(1, 1, 1, true) as the seventh", x.hear(1, 1, 1, true), ColdDepots.FULL);
        due.due("hear(8, 1, 1, true): OUTSIDE is first", x.hear(8, 1, 1, true), ColdDepots.OUTSIDE);
        due.due("count(7)", x.count(7), 6);
        due.due("LAY behind a refusal", x.cairn(1, 1), 1020);
        due.end();
    }
}
