import java.util.List;

/** Boundary cases of promise 11: would. */
public final class Promise11WouldEdgeTest {
    private static final Cases CASES = new Cases("11, would");

    public static void main(String[] args) {
        members();
        stagesAndFoods();
        whats();
        theDead();
        CASES.end();
    }

    private static void members() {
        CASES.is("members 1, the least", Due.camp("mm;00000").would(1, 1, 4, 0), 1);
        CASES.is("members 3, all of two", Due.camp("mm;00000").would(3, 1, 8, 0), 3);
        CASES.is("members 63, all of six", Due.camp("mmmmmm;00000").would(63, 1, 24, 0), 63);
        for (int some : new int[] {0, -1, Integer.MIN_VALUE, 64, 65, Integer.MIN_VALUE + 1, Integer.MAX_VALUE}) {
            CASES.refused("members " + some + " are OUTSIDE", ColdDepots.OUTSIDE, Standing.ALL,
                x -> x.would(some, 1, 9, 0));
        }
        List<Standing> two = List.of(Standing.TWO, Standing.NOBODY, Standing.SECOND);
        for (int some : new int[] {4, 5, 63}) {
            CASES.refused("members " + some + " of two are OUTSIDE", ColdDepots.OUTSIDE, two,
                x -> x.would(some, 1, 9, 0));
        }
        CASES.refused("members 1 without a camp are OUTSIDE", ColdDepots.OUTSIDE, Standing.WITHOUT_CAMP,
            x -> x.would(1, 1, 9, 3));
    }

    private static void stagesAndFoods() {
        CASES.is("stage 1 is the first", Due.camp("mh;00902").would(3, 1, 7, 0), 3);
        CASES.is("stage 6 is the last", Due.camp("mh;00902").would(3, 6, 7, 0), 1);
        for (int stage : new int[] {0, -1, Integer.MIN_VALUE, 7, Integer.MAX_VALUE}) {
            CASES.refused("stage " + stage + " is OUTSIDE", ColdDepots.OUTSIDE, Standing.ALL,
                x -> x.would(1, stage, 4, 0));
        }
        CASES.is("food 0 is the least", Due.camp("md;00000").would(3, 1, 0, 0), 1);
        CASES.is("food 40 is the most", Due.camp("md;00000").would(3, 1, 40, 0), 3);
        for (int food : new int[] {-1, Integer.MIN_VALUE, 41, Integer.MAX_VALUE}) {
            CASES.refused("food " + food + " is OUTSIDE", ColdDepots.OUTSIDE, Standing.ALL,
                x -> x.would(1, 1, food, 0));
        }
    }

    private static void whats() {
        for (int what : new int[] {-1, Integer.MIN_VALUE, 4, Integer.MAX_VALUE}) {
            CASES.refused("what = " + what + " is OUTSIDE", ColdDepots.OUTSIDE, Standing.ALL,
                x -> x.would(1, 1, 4, what));
        }
        for (int what = 0; what <= 3; what++) {
            int asked = what;
            CASES.tellsOnly("would(1, 2, 9, " + what + ")", Standing.ALL, x -> x.would(1, 2, 9, asked));
            CASES.tellsOnly("would(1, 6, 0, " + what + "), where they die,", Standing.ALL,
                x -> x.would(1, 6, 0, asked));
        }
        CASES.is("what = 0, they die", Due.camp("mm;00000").would(1, 1, 1, 0), 0);
        CASES.is("what = 1, they die with food left", Due.camp("mm;00000").would(3, 1, 3, 1), 0);
        CASES.is("what = 1, they come home with nothing", Due.camp("mm;00000").would(3, 1, 4, 1), 0);
        CASES.is("what = 2, nothing lies there", Due.camp("mm;00000").would(1, 2, 4, 2), 0);
        CASES.is("what = 2, the most lies there", Due.camp("mm;99999").would(1, 1, 4, 2), 45);
        CASES.is("what = 3, they die on the first stage", Due.camp("mm;99999").would(1, 6, 0, 3), 1);
        CASES.is("what = 3, they die on the last stage out", Due.camp("mm;00000").would(1, 4, 3, 3), 4);
        CASES.is("what = 3, they die on the first stage home", Due.camp("mm;00000").would(1, 4, 4, 3), 5);
        CASES.is("what = 3, they die on the twelfth", Due.camp("hm;00005").would(3, 6, 7, 3), 12);
        CASES.is("what = 3, they do not die", Due.camp("mm;00000").would(1, 2, 4, 3), 0);
        CASES.is("what = 3, one is eaten, they do not die", Due.camp("md;00000").would(3, 1, 0, 3), 0);
        CASES.test("one that dies leaves no trace in what is asked next", due -> {
            ColdDepots x = Due.camp("mm;01000");
            due.due("died", x.would(3, 3, 8, 3), 5);
            due.due("at all cairns then", x.would(3, 3, 8, 2), 0);
            due.due("at all cairns behind another", x.would(1, 1, 4, 2), 1);
            due.due("does not die", x.would(1, 1, 4, 3), 0);
        });
    }

    private static void theDead() {
        List<Standing> ponyDied = List.of(Standing.MIDWAY);
        for (int some : new int[] {2, 3, 63}) {
            CASES.refused("members " + some + ", of whom the pony died", ColdDepots.STATE, ponyDied,
                x -> x.would(some, 1, 9, 0));
        }
        for (int some : new int[] {1, 2, 3}) {
            CASES.refused("members " + some + ", who died", ColdDepots.STATE, List.of(Standing.NOBODY),
                x -> x.would(some, 1, 9, 0));
        }
        CASES.refused("OUTSIDE is first, by the stage", ColdDepots.OUTSIDE, ponyDied, x -> x.would(2, 7, 9, 0));
        CASES.refused("OUTSIDE is first, by the food", ColdDepots.OUTSIDE, ponyDied, x -> x.would(2, 1, 41, 0));
        CASES.refused("OUTSIDE is first, by what", ColdDepots.OUTSIDE, ponyDied, x -> x.would(2, 1, 9, 4));
        CASES.is("all who live", Standing.MIDWAY.make().would(61, 1, 15, 0), 61);
    }
}
