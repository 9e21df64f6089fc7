import java.util.List;

/** Boundary cases of promise 7: as. */
public final class Promise07AsEdgeTest {
    private static final Cases CASES = new Cases("7, as");
    private static final String LETTERS = "mpdbh";

    public static void main(String[] args) {
        numbers();
        kinds();
        casts();
        CASES.end();
    }

    private static void numbers() {
        CASES.is("its own number, not that of the kind: 0 of two", Due.camp("hp;00000").as(0, 4), 0);
        CASES.is("its own number, not that of the kind: 1 of two", Due.camp("ph;00000").as(1, 4), 1);
        CASES.is("its own number, not that of the kind: 5 of six", Due.camp("mmmmmp;00000").as(5, 1), 5);
        CASES.refused("2 of two is UNKNOWN", ColdDepots.UNKNOWN, List.of(Standing.TWO, Standing.NOBODY, Standing.SECOND),
            x -> x.as(2, 0));
        int[] nobody = {-1, 6, 32, Integer.MIN_VALUE, Integer.MAX_VALUE};
        for (int member : nobody) {
            CASES.refused(member + " is UNKNOWN", ColdDepots.UNKNOWN, Standing.ALL, x -> x.as(member, 0));
            CASES.refused(member + ": UNKNOWN is first", ColdDepots.UNKNOWN, Standing.ALL, x -> x.as(member, 5));
        }
        for (int kind : new int[] {0, 4, 5, -1}) {
            CASES.refused("0 without a camp is UNKNOWN, kind " + kind, ColdDepots.UNKNOWN, Standing.WITHOUT_CAMP,
                x -> x.as(0, kind));
        }
    }

    private static void kinds() {
        CASES.is("kind 0 is the first", Due.camp("bm;00000").as(1, 0), 1);
        CASES.is("kind 4 is the last", Due.camp("bh;00000").as(1, 4), 1);
        for (int kind : new int[] {-1, 5, Integer.MIN_VALUE, Integer.MAX_VALUE}) {
            CASES.refused("kind " + kind + " is OUTSIDE", ColdDepots.OUTSIDE, Standing.WITH_CAMP, x -> x.as(1, kind));
        }
        CASES.tellsOnly("as()", Standing.ALL, x -> x.as(1, 2));
        CASES.tellsOnly("as() that fails", Standing.ALL, x -> x.as(0, 3));
    }

    private static void casts() {
        int no = ColdDepots.NONE;
        int[][] want = {{1, no, no, no, no}, {1, 1, no, no, no}, {1, no, 1, no, no}, {1, no, no, 1, no},
            {1, no, 1, no, 1}};
        for (int own = 0; own < 5; own++) {
            ColdDepots x = Due.camp("m" + LETTERS.charAt(own) + ";00000");
            for (int kind = 0; kind <= 4; kind++) {
                CASES.is(LETTERS.charAt(own) + " as kind " + kind, x.as(1, kind), want[own][kind]);
            }
            x.march(2, 6, 0);
            for (int kind = 0; kind <= 4; kind++) {
                CASES.is(LETTERS.charAt(own) + " that died as kind " + kind, x.as(1, kind), want[own][kind]);
            }
        }
    }
}
