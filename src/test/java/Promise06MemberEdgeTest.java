import java.util.List;

/** Boundary cases of promise 6: member. */
public final class Promise06MemberEdgeTest {
    private static final Cases CASES = new Cases("6, member");

    public static void main(String[] args) {
        numbers();
        whats();
        kinds();
        CASES.end();
    }

    private static void numbers() {
        CASES.is("0 is the first of two", Due.camp("hm;00000").member(0, 0), 4);
        CASES.is("1 is the last of two", Due.camp("mh;00000").member(1, 0), 4);
        CASES.is("5 is the last of six", Due.camp("mmmmmh;00000").member(5, 0), 4);
        CASES.refused("2 of two is UNKNOWN", ColdDepots.UNKNOWN, List.of(Standing.TWO, Standing.NOBODY, Standing.SECOND),
            x -> x.member(2, 0));
        int[] nobody = {-1, 6, 32, Integer.MIN_VALUE, Integer.MAX_VALUE};
        for (int member : nobody) {
            CASES.refused(member + " is UNKNOWN", ColdDepots.UNKNOWN, Standing.ALL, x -> x.member(member, 0));
            CASES.refused(member + ": UNKNOWN is first", ColdDepots.UNKNOWN, Standing.ALL, x -> x.member(member, 5));
        }
        for (int what : new int[] {0, 4, 5, -1}) {
            CASES.refused("0 without a camp is UNKNOWN, what = " + what, ColdDepots.UNKNOWN, Standing.WITHOUT_CAMP,
                x -> x.member(0, what));
        }
    }

    private static void whats() {
        CASES.is("what = 0 is the first", Due.camp("bm;00000").member(0, 0), 3);
        CASES.is("what = 4 is the last", Due.camp("bm;00000").member(0, 4), 1);
        for (int what : new int[] {-1, 5, Integer.MIN_VALUE, Integer.MAX_VALUE}) {
            CASES.refused("what = " + what + " is OUTSIDE", ColdDepots.OUTSIDE, Standing.WITH_CAMP,
                x -> x.member(1, what));
        }
        CASES.tellsOnly("member()", Standing.ALL, x -> x.member(1, 4));
    }

    private static void kinds() {
        String letters = "mpdbh";
        int[][] want = {{0, 4, 1, 0, 1}, {1, 8, 2, 6, 1}, {2, 2, 1, 2, 1}, {3, 2, 1, 0, 1}, {4, 3, 1, 3, 1}};
        for (int kind = 0; kind < 5; kind++) {
            ColdDepots x = Due.camp("mmmmm" + letters.charAt(kind) + ";00000");
            for (int what = 0; what <= 4; what++) {
                CASES.is(letters.charAt(kind) + ", what = " + what, x.member(5, what), want[kind][what]);
            }
            x.march(32, 6, 0);
            for (int what = 0; what <= 3; what++) {
                CASES.is(letters.charAt(kind) + " that died, what = " + what, x.member(5, what), want[kind][what]);
            }
            CASES.is(letters.charAt(kind) + " that died does not live", x.member(5, 4), 0);
        }
    }
}
