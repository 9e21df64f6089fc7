import java.util.List;

/** Boundary cases of promise 2: letter. */
public final class Promise02LetterEdgeTest {
    private static final Cases CASES = new Cases("2, letter");
    private static final List<Standing> FULL = List.of(Standing.FULL_PAGE, Standing.FULL_UP);

    public static void main(String[] args) {
        codes();
        lengths();
        CASES.end();
    }

    private static void codes() {
        CASES.is("code 1 is the first taken", new ColdDepots().letter(1), 1);
        CASES.is("code 126 is the last taken", new ColdDepots().letter(126), 1);
        int[] wrong = {0, -1, Integer.MIN_VALUE, 127, 128, 256 + 'm', 65536 + 'm', Integer.MIN_VALUE + 'm',
            Integer.MAX_VALUE};
        for (int code : wrong) {
            CASES.refused("code " + code + " is OUTSIDE", ColdDepots.OUTSIDE, Standing.ALL, x -> x.letter(code));
        }
        CASES.test("code 1 stands on the page as it is", due -> {
            due.due("digest", Due.page("\u0001").digest() - Due.page("\u0002").digest(), -Digests.power(11));
        });
        CASES.test("code 126 stands on the page as it is", due -> {
            due.due("digest", Due.page("~").digest() - Due.page("}").digest(), Digests.power(11));
        });
    }

    private static void lengths() {
        CASES.is("the first letter answers 1", new ColdDepots().letter('m'), 1);
        CASES.is("the 15th letter is taken", Due.page("mpdbhm;12345~~").letter('~'), 15);
        for (int code : new int[] {1, 'm', 126}) {
            CASES.refused("the 16th letter, code " + code, ColdDepots.FULL, FULL, x -> x.letter(code));
        }
        for (int code : new int[] {0, 127, Integer.MAX_VALUE}) {
            CASES.refused("OUTSIDE is first on a full page, code " + code, ColdDepots.OUTSIDE, FULL,
                x -> x.letter(code));
        }
        CASES.test("a refused letter takes no place", due -> {
            ColdDepots x = Due.page("mm");
            x.letter(0);
            x.letter(127);
            due.due("the next letter", x.letter(';'), 3);
        });
        CASES.test("behind blank() of a full page 15 fit again", due -> {
            ColdDepots x = Standing.FULL_PAGE.make();
            x.blank();
            fifteenFit(due, x);
        });
        CASES.test("behind camp() of the longest camp 15 fit again", due -> fifteenFit(due, Standing.SIX.make()));
    }

    private static void fifteenFit(Due due, ColdDepots x) {
        for (int length = 1; length <= 15; length++) {
            due.due("letter " + length, x.letter('b'), length);
        }
        due.due("letter 16", x.letter('b'), ColdDepots.FULL);
    }
}
