import java.util.List;

/** Boundary cases of promise 13: far. */
public final class Promise13FarEdgeTest {
    private static final Cases CASES = new Cases("13, far");

    public static void main(String[] args) {
        numbers();
        theDead();
        stages();
        CASES.tellsOnly("far()", Standing.ALL, x -> x.far(1));
        CASES.end();
    }

    private static int far(String camp, int members) {
        return Due.camp(camp).far(members);
    }

    private static void numbers() {
        CASES.is("members 1, the least", far("mm;00000", 1), 2);
        CASES.is("members 3, all of two", far("mm;00000", 3), 2);
        CASES.is("members 63, all of six", far("mmmmmm;00000", 63), 2);
        for (int some : new int[] {0, -1, Integer.MIN_VALUE, 64, 65, Integer.MIN_VALUE + 1, Integer.MAX_VALUE}) {
            CASES.refused("members " + some + " are OUTSIDE", ColdDepots.OUTSIDE, Standing.ALL, x -> x.far(some));
        }
        for (int some : new int[] {4, 5, 63}) {
            CASES.refused("members " + some + " of two are OUTSIDE", ColdDepots.OUTSIDE,
                List.of(Standing.TWO, Standing.NOBODY, Standing.SECOND), x -> x.far(some));
        }
        for (int some : new int[] {1, 3}) {
            CASES.refused("members " + some + " without a camp are OUTSIDE", ColdDepots.OUTSIDE, Standing.WITHOUT_CAMP,
                x -> x.far(some));
        }
    }

    private static void theDead() {
        for (int some : new int[] {2, 3, 63}) {
            CASES.refused("members " + some + ", of whom the pony died", ColdDepots.STATE, List.of(Standing.MIDWAY),
                x -> x.far(some));
        }
        for (int some : new int[] {1, 2, 3}) {
            CASES.refused("members " + some + ", who died", ColdDepots.STATE, List.of(Standing.NOBODY),
                x -> x.far(some));
        }
        CASES.refused("OUTSIDE is first", ColdDepots.OUTSIDE, List.of(Standing.MIDWAY, Standing.NOBODY), x -> x.far(66));
        CASES.is("who lives, where another died", Standing.MIDWAY.make().far(8), 1);
    }

    private static void stages() {
        CASES.is("stage 6 is the farthest", far("mh;00902", 3), 6);
        CASES.is("stage 5, where stage 6 needs 1 more", far("mh;00901", 3), 5);
        CASES.is("stage 1, a boy", far("bm;00000", 1), 1);
        CASES.is("stage 1, a dog", far("dm;00000", 1), 1);
        CASES.is("stage 1, a husky", far("hm;00000", 1), 1);
        CASES.is("stage 2, a pony", far("pm;00000", 1), 2);
        CASES.is("the food at all cairns does not help a boy", far("bm;99999", 1), 1);
        CASES.test("the farthest, though a nearer one is not reached", due -> {
            ColdDepots x = Due.camp("md;00500");
            due.due("need(3, 3)", x.need(3, 3), ColdDepots.NONE);
            due.due("far(3)", x.far(3), 4);
        });
    }
}
