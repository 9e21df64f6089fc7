/** Food at a cairn becomes so much. */
public final class Promise09LayTest {
    public static void main(String[] args) {
        Due due = new Due();
        ColdDepots none = new ColdDepots();
        ColdDepots x = Due.camp("mm;12345");
        for (int cairn = 1; cairn <= 5; cairn++) {
            due.due("lay(" + cairn + ", 9)", x.lay(cairn, 9), cairn);
            due.due("lay(" + cairn + ", 0)", x.lay(cairn, 0), 9);
            due.due("lay(" + cairn + ", 7)", x.lay(cairn, 7), 0);
            due.due("cairn(" + cairn + ", 0)", x.cairn(cairn, 0), 7);
        }
        int[] nowhere = {0, 6, -1, Integer.MIN_VALUE, Integer.MAX_VALUE};
        for (int cairn : nowhere) {
            due.due("lay(" + cairn + ", 1)", x.lay(cairn, 1), ColdDepots.UNKNOWN);
            due.due("lay(" + cairn + ", 10): UNKNOWN is first", x.lay(cairn, 10), ColdDepots.UNKNOWN);
        }
        int[] wrong = {-1, 10, 40, Integer.MIN_VALUE, Integer.MAX_VALUE};
        for (int food : wrong) {
            due.due("lay(3, " + food + ")", x.lay(3, food), ColdDepots.OUTSIDE);
            due.due("lay(3, " + food + ") without a camp", none.lay(3, food), ColdDepots.UNKNOWN);
        }
        due.due("refusals change nothing", x.count(2), 35);
        due.due("lay(3, 1) without a camp", none.lay(3, 1), ColdDepots.UNKNOWN);
        Due.type(none, "mm;00000");
        none.camp();
        due.due("lay() without a camp laid nothing", none.count(2), 0);
        due.end();
    }
}
