import java.util.List;

/** Boundary cases of promise 9: lay. */
public final class Promise09LayEdgeTest {
    private static final Cases CASES = new Cases("9, lay");

    public static void main(String[] args) {
        cairns();
        foods();
        whatItChanges();
        CASES.end();
    }

    private static void cairns() {
        CASES.is("cairn 1 is the first", Due.camp("mm;70003").lay(1, 1), 7);
        CASES.is("cairn 5 is the last", Due.camp("mm;70003").lay(5, 1), 3);
        for (int cairn : new int[] {0, -1, Integer.MIN_VALUE, 6, Integer.MAX_VALUE}) {
            CASES.refused(cairn + " is UNKNOWN", ColdDepots.UNKNOWN, Standing.ALL, x -> x.lay(cairn, 1));
            CASES.refused(cairn + ": UNKNOWN is first", ColdDepots.UNKNOWN, Standing.ALL, x -> x.lay(cairn, 10));
        }
        for (int food : new int[] {0, 9, 10, -1}) {
            CASES.refused("1 without a camp is UNKNOWN, food " + food, ColdDepots.UNKNOWN, Standing.WITHOUT_CAMP,
                x -> x.lay(1, food));
        }
    }

    private static void foods() {
        CASES.test("food 0 is the least", due -> laid(due, 0));
        CASES.test("food 9 is the most", due -> laid(due, 9));
        for (int food : new int[] {-1, Integer.MIN_VALUE, 10, 40, Integer.MAX_VALUE}) {
            CASES.refused("food " + food + " is OUTSIDE", ColdDepots.OUTSIDE, Standing.WITH_CAMP, x -> x.lay(5, food));
        }
    }

    private static void laid(Due due, int food) {
        ColdDepots x = Due.camp("mm;55555");
        for (int cairn = 1; cairn <= 5; cairn++) {
            due.due("lay(" + cairn + ", " + food + ")", x.lay(cairn, food), 5);
            due.due("cairn(" + cairn + ", 0)", x.cairn(cairn, 0), food);
            due.due("count(2)", x.count(2), 25 + cairn * (food - 5));
        }
    }

    private static void whatItChanges() {
        CASES.tellsOnly("lay() of as much as there is", List.of(Standing.SIX, Standing.FULL_UP), x -> x.lay(1, 9));
        CASES.test("of the five cairns one alone", due -> {
            ColdDepots x = Due.camp("mm;12345");
            due.due("lay(3, 9)", x.lay(3, 9), 3);
            int[] want = {1, 2, 9, 4, 5};
            for (int cairn = 1; cairn <= 5; cairn++) {
                due.due("cairn(" + cairn + ", 0)", x.cairn(cairn, 0), want[cairn - 1]);
            }
        });
        CASES.is("where nobody lives", Standing.NOBODY.make().lay(3, 1), 9);
        CASES.test("the image keeps what lay there", due -> {
            ColdDepots x = Standing.SIX.make();
            x.image();
            x.lay(1, 0);
            x.restore();
            due.due("cairn(1, 0)", x.cairn(1, 0), 9);
        });
    }
}
