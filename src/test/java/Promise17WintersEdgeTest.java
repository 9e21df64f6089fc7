import java.math.BigInteger;
import java.util.List;

/** Boundary cases of promise 17: winters. */
public final class Promise17WintersEdgeTest {
    private static final Cases CASES = new Cases("17, winters");
    private static final int MAX = Integer.MAX_VALUE;
    private static final int MIN = Integer.MIN_VALUE;

    public static void main(String[] args) {
        numbers();
        refused();
        creeping();
        seeds();
        nobody();
        for (int what = 0; what <= 2; what++) {
            int asked = what;
            CASES.tellsOnly("winters(20, 1, " + what + ")", Standing.ALL, x -> x.winters(20, 1, asked));
        }
        CASES.end();
    }

    private static int winters(String camp, int many, int seed, int what) {
        return Due.camp(camp).winters(many, seed, what);
    }

    private static void numbers() {
        CASES.is("one winter is the fewest", winters("mm;99999", 1, 1, 0), 40);
        CASES.is("20 winters are the most", winters("mm;99999", 20, 7, 0), 0);
        CASES.is("seed 0 is the least", winters("mm;99999", 1, 0, 0), 43);
        CASES.is("the greatest seed", winters("mm;99999", 1, MAX, 0), 39);
        CASES.is("what = 0 is the first", winters("mm;22000", 1, 0, 0), 4);
        CASES.is("what = 1", winters("mm;22000", 1, 0, 1), 3);
        CASES.is("what = 2 is the last", winters("mm;22000", 1, 0, 2), 229283573);
    }

    private static void refused() {
        for (int many : new int[] {0, -1, MIN, 21, MAX}) {
            CASES.refused(many + " winters are OUTSIDE", ColdDepots.OUTSIDE, Standing.ALL, x -> x.winters(many, 1, 0));
        }
        for (int seed : new int[] {-1, MIN}) {
            CASES.refused("seed " + seed + " is OUTSIDE", ColdDepots.OUTSIDE, Standing.ALL, x -> x.winters(1, seed, 0));
        }
        for (int what : new int[] {-1, MIN, 3, MAX}) {
            CASES.refused("what = " + what + " is OUTSIDE", ColdDepots.OUTSIDE, Standing.ALL,
                x -> x.winters(1, 1, what));
        }
        for (int what = 0; what <= 2; what++) {
            int asked = what;
            CASES.refused("without a camp, what = " + what, ColdDepots.STATE, Standing.WITHOUT_CAMP,
                x -> x.winters(20, 0, asked));
        }
        CASES.refused("OUTSIDE is first, by how many", ColdDepots.OUTSIDE, Standing.WITHOUT_CAMP,
            x -> x.winters(21, 1, 0));
        CASES.refused("OUTSIDE is first, by the seed", ColdDepots.OUTSIDE, Standing.WITHOUT_CAMP,
            x -> x.winters(1, -1, 0));
        CASES.refused("OUTSIDE is first, by what", ColdDepots.OUTSIDE, Standing.WITHOUT_CAMP,
            x -> x.winters(1, 1, 3));
    }

    /** By seed 1 there creep out 2, 1, 0, 1 and 1, then 2, 0, 0, 0 and 0. */
    private static void creeping() {
        CASES.is("2 creep out of 3", winters("mm;30000", 1, 1, 0), 1);
        CASES.is("2 creep out of 2", winters("mm;20000", 1, 1, 0), 0);
        CASES.is("2 creep out of 1: all", winters("mm;10000", 1, 1, 0), 0);
        CASES.is("2 creep out of none", winters("mm;00000", 1, 1, 0), 0);
        CASES.is("1 creeps out of 1", winters("mm;01000", 1, 1, 0), 0);
        CASES.is("0 creep out", winters("mm;00100", 1, 1, 0), 1);
        CASES.is("of cairn 5 the fifth draw tells", winters("mm;00009", 1, 1, 0), 8);
        CASES.is("the second winter goes on", winters("mm;50000", 2, 1, 0), 1);
        CASES.is("the second winter finds nothing", winters("mm;30000", 2, 1, 0), 0);
        CASES.is("an empty cairn takes its draws", winters("mm;00000", 2, 1, 2), winters("mm;99999", 2, 1, 2));
        CASES.test("20 winters are one winter 20 times", due -> {
            ColdDepots x = Due.camp("mm;00000");
            int seed = MAX;
            for (int winter = 1; winter <= 20; winter++) {
                seed = x.winters(1, seed, 2);
            }
            due.due("winters(20, MAX, 2)", x.winters(20, MAX, 2), seed);
        });
    }

    private static BigInteger next(BigInteger seed) {
        BigInteger two31 = BigInteger.TWO.pow(31);
        return BigInteger.valueOf(1103515245).multiply(seed).add(BigInteger.valueOf(12345)).mod(two31);
    }

    /** Held against whole numbers that do not wrap. */
    private static void byWholeNumbers(Due due, int many, int first) {
        BigInteger seed = BigInteger.valueOf(first);
        int[] lying = {9, 9, 9, 9, 9};
        for (int draw = 0; draw < 5 * many; draw++) {
            seed = next(seed);
            int creeps = seed.divide(BigInteger.valueOf(65536)).mod(BigInteger.valueOf(3)).intValue();
            lying[draw % 5] = Math.max(0, lying[draw % 5] - creeps);
        }
        int sum = lying[0] + lying[1] + lying[2] + lying[3] + lying[4];
        due.due("winters(" + many + ", " + first + ", 0)", winters("mm;99999", many, first, 0), sum);
        due.due("winters(" + many + ", " + first + ", 2)", winters("mm;99999", many, first, 2), seed.intValueExact());
    }

    private static void seeds() {
        int[] firsts = {0, 1, 2, 3, 65535, 65536, 1 << 30, 1103515245, 2147471302, 2147471303, MAX - 1, MAX};
        for (int first : firsts) {
            for (int many : new int[] {1, 2, 19, 20}) {
                CASES.test("seed " + first + " wraps around, " + many + " winters",
                    due -> byWholeNumbers(due, many, first));
            }
        }
    }

    private static void nobody() {
        CASES.is("nobody lives: 0 far", Standing.NOBODY.make().winters(1, 0, 1), 0);
        CASES.is("nobody lives: the food lies there", Standing.NOBODY.make().winters(1, 0, 0), 10);
        CASES.is("nobody lives: the seed goes on", Standing.NOBODY.make().winters(1, 0, 2), 229283573);
        CASES.test("how far all who live are, of two one", due -> {
            ColdDepots x = Due.camp("bm;00000");
            due.due("both", x.winters(1, 0, 1), 1);
            x.march(1, 6, 0);
            due.due("the man", x.winters(1, 0, 1), 2);
        });
        CASES.is("as far as stage 6", winters("mh;00909", 1, 0, 1), 6);
        List<Standing> six = List.of(Standing.SIX);
        CASES.tellsOnly("the farthest of six", six, x -> x.winters(1, 0, 1));
    }
}
