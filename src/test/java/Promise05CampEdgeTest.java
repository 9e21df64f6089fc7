import java.util.List;

/** Boundary cases of promise 5: camp. */
public final class Promise05CampEdgeTest {
    private static final Cases CASES = new Cases("5, camp");

    public static void main(String[] args) {
        taken();
        refused();
        whatIsGone();
        CASES.end();
    }

    private static void taken() {
        CASES.is("two members are the fewest", Due.page("mm;00000").camp(), 2);
        CASES.is("six members are the most", Due.page("mpdbhm;00000").camp(), 6);
        CASES.is("a camp of beasts alone", Due.page("pd;00000").camp(), 2);
        CASES.is("a camp of six of a kind", Due.page("hhhhhh;99999").camp(), 6);
        CASES.test("digits 0 and 9 are the least and the most food", due -> {
            ColdDepots x = Due.camp("mm;90909");
            for (int cairn = 1; cairn <= 5; cairn++) {
                due.due("cairn(" + cairn + ", 0)", x.cairn(cairn, 0), cairn % 2 == 1 ? 9 : 0);
            }
        });
        CASES.test("the first and the last digit of a camp of six", due -> {
            ColdDepots x = Due.camp("mpdbhm;10002");
            due.due("cairn(1, 0)", x.cairn(1, 0), 1);
            due.due("cairn(5, 0)", x.cairn(5, 0), 2);
        });
        CASES.test("members are numbered from 0", due -> {
            ColdDepots x = Due.camp("pmmmmh;00000");
            due.due("member(0, 0)", x.member(0, 0), 1);
            due.due("member(5, 0)", x.member(5, 0), 4);
        });
        CASES.is("the page is empty then", Standing.TWO.make().count(8), 0);
    }

    private static void refused() {
        List<Standing> noWholeText = List.of(Standing.NEW, Standing.HALF_PAGE, Standing.FULL_PAGE, Standing.TWO,
            Standing.SIX, Standing.MIDWAY, Standing.FULL_UP, Standing.NOBODY);
        CASES.refused("a page that is no camp", ColdDepots.STATE, noWholeText, ColdDepots::camp);
        String[] wrong = {"m;12345", ";12345", "mpdbhmp;12345", "mm;1234", "mm;", "mm", "mm12345", "mm;123456",
            "mpdbhm;1234", "mpdbhm;123456", "mm;1234/", "mm;1234:", "lm;12345", "Mm;12345", "mm;12345;",
            "mm;12345mm;1234", "mm;1234\u0001"};
        for (String text : wrong) {
            CASES.refused("the text " + text, ColdDepots.STATE, List.of(Standing.page(text)), ColdDepots::camp);
        }
        CASES.test("a refused page can be made whole", due -> {
            ColdDepots x = Due.page("mm;1234");
            due.due("camp() of four digits", x.camp(), ColdDepots.STATE);
            x.letter('5');
            due.due("camp() of five digits", x.camp(), 2);
        });
    }

    private static void whatIsGone() {
        CASES.test("a camp read upon another is as if read first, but for count(9) and count(10)", due -> {
            ColdDepots x = Standing.MIDWAY.make();
            x.blank();
            Due.type(x, "bp;00100");
            due.due("camp()", x.camp(), 2);
            int[] want = {2, 2, 1, 0, 0, 10, 3, 0, 0, 2, 2};
            for (int what = 0; what <= 10; what++) {
                due.due("count(" + what + ")", x.count(what), want[what]);
            }
        });
        CASES.test("who died lives in another camp of the same text", due -> {
            ColdDepots x = Standing.NOBODY.make();
            Due.type(x, Standing.TWO_TEXT);
            x.camp();
            due.due("member(0, 4)", x.member(0, 4), 1);
            due.due("member(1, 4)", x.member(1, 4), 1);
        });
        CASES.test("of six members upon two, none of the six is left", due -> {
            ColdDepots x = Standing.SECOND.make();
            due.due("member(1, 0)", x.member(1, 0), 4);
            due.due("member(2, 0)", x.member(2, 0), ColdDepots.UNKNOWN);
            due.due("march(4, 1, 4)", x.march(4, 1, 4), ColdDepots.OUTSIDE);
            due.due("march(63, 1, 4)", x.march(63, 1, 4), ColdDepots.OUTSIDE);
        });
        CASES.test("of two members upon six, all six are there", due -> {
            ColdDepots x = Standing.TWO.make();
            Due.type(x, Standing.SIX_TEXT);
            due.due("camp()", x.camp(), 6);
            due.due("member(5, 4)", x.member(5, 4), 1);
            due.due("march(63, 1, 14)", x.march(63, 1, 14), 63);
        });
        CASES.is("what was heard is gone", Standing.SECOND.make().count(7), 0);
        CASES.is("nothing heard is weighed", Standing.SECOND.make().cairn(1, 1), 1023);
        CASES.is("the image is gone", Standing.SECOND.make().restore(), ColdDepots.STATE);
    }
}
