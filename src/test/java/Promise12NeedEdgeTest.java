import java.util.List;

/** Boundary cases of promise 12: need. */
public final class Promise12NeedEdgeTest {
    private static final Cases CASES = new Cases("12, need");

    public static void main(String[] args) {
        numbers();
        theDead();
        needs();
        CASES.tellsOnly("need()", Standing.ALL, x -> x.need(1, 2));
        CASES.tellsOnly("need() that is none", Standing.ALL, x -> x.need(1, 6));
        CASES.end();
    }

    private static int need(String camp, int members, int stage) {
        return Due.camp(camp).need(members, stage);
    }

    private static void numbers() {
        CASES.is("members 1, the least", need("mm;00000", 1, 1), 2);
        CASES.is("members 3, all of two", need("mm;00000", 3, 1), 4);
        CASES.is("members 63, all of six", need("mmmmmm;00000", 63, 1), 12);
        for (int some : new int[] {0, -1, Integer.MIN_VALUE, 64, 65, Integer.MIN_VALUE + 1, Integer.MAX_VALUE}) {
            CASES.refused("members " + some + " are OUTSIDE", ColdDepots.OUTSIDE, Standing.ALL, x -> x.need(some, 1));
        }
        for (int some : new int[] {4, 5, 63}) {
            CASES.refused("members " + some + " of two are OUTSIDE", ColdDepots.OUTSIDE,
                List.of(Standing.TWO, Standing.NOBODY, Standing.SECOND), x -> x.need(some, 1));
        }
        CASES.refused("members 1 without a camp are OUTSIDE", ColdDepots.OUTSIDE, Standing.WITHOUT_CAMP,
            x -> x.need(1, 1));
        CASES.is("stage 1 is the first", need("mh;00902", 3, 1), 0);
        CASES.is("stage 6 is the last", need("mh;00902", 3, 6), 7);
        for (int stage : new int[] {0, -1, Integer.MIN_VALUE, 7, Integer.MAX_VALUE}) {
            CASES.refused("stage " + stage + " is OUTSIDE", ColdDepots.OUTSIDE, Standing.ALL, x -> x.need(1, stage));
        }
    }

    private static void theDead() {
        for (int some : new int[] {2, 3, 63}) {
            CASES.refused("members " + some + ", of whom the pony died", ColdDepots.STATE, List.of(Standing.MIDWAY),
                x -> x.need(some, 1));
        }
        for (int some : new int[] {1, 2, 3}) {
            CASES.refused("members " + some + ", who died", ColdDepots.STATE, List.of(Standing.NOBODY),
                x -> x.need(some, 1));
        }
        CASES.refused("OUTSIDE is first", ColdDepots.OUTSIDE, List.of(Standing.MIDWAY, Standing.NOBODY),
            x -> x.need(2, 7));
        CASES.is("all who live", Standing.MIDWAY.make().need(61, 1), 2);
    }

    private static void needs() {
        CASES.is("0 is the least: the pony is eaten", need("mp;00000", 3, 2), 0);
        CASES.is("as much as he pulls", need("mm;00000", 1, 2), 4);
        CASES.is("one less than he pulls", need("mm;10000", 1, 2), 3);
        CASES.is("more than he pulls: none", need("mm;00000", 1, 3), ColdDepots.NONE);
        CASES.is("as much as six pull", need("mmmmmm;00000", 63, 2), 24);
        CASES.is("more than six pull: none", need("mmmmmm;00000", 63, 3), ColdDepots.NONE);
        CASES.is("much", need("pppppd;01200", 63, 4), 33);
        CASES.test("the least, though with more they die", due -> {
            ColdDepots x = Due.camp("php;00000");
            due.due("need(7, 3)", x.need(7, 3), 9);
            due.due("with 8", x.would(7, 3, 8, 0), 0);
            due.due("with 9", x.would(7, 3, 9, 0) > 0 ? 1 : 0, 1);
            due.due("with 10", x.would(7, 3, 10, 0), 0);
        });
    }
}
