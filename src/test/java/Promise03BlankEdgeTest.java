import java.util.List;

/** Boundary cases of promise 3: blank. */
public final class Promise03BlankEdgeTest {
    private static final Cases CASES = new Cases("3, blank");

    public static void main(String[] args) {
        CASES.is("the empty page of a new object", new ColdDepots().blank(), 0);
        CASES.is("a page of one letter", Due.page("m").blank(), 1);
        CASES.is("a page of 14 letters", Due.page("mpdbhm;12345~~").blank(), 14);
        CASES.is("a full page", Due.page("mpdbhm;12345~~~").blank(), 15);
        CASES.is("a full page where a 16th was refused", Due.page("mpdbhm;12345~~~~").blank(), 15);
        CASES.is("the page behind camp() is empty", Standing.SIX.make().blank(), 0);
        CASES.is("the page behind a refused camp() stands", refusedCamp().blank(), 3);
        CASES.tellsOnly("blank() of an empty page", List.of(Standing.NEW, Standing.TWO, Standing.SIX, Standing.NOBODY),
            ColdDepots::blank);
        CASES.test("blank() again", due -> {
            ColdDepots x = Standing.FULL_PAGE.make();
            x.blank();
            due.due("blank()", x.blank(), 0);
        });
        CASES.test("blank() of a full page is as if there had been none", due -> same(due, Standing.FULL_PAGE));
        CASES.test("blank() of a whole camp's text is as if there had been none", due -> same(due, Standing.UNREAD));
        CASES.test("blank() with a camp takes nothing but the page", due -> {
            ColdDepots x = Standing.MIDWAY.make();
            due.due("blank()", x.blank(), 4);
            int[] want = {6, 5, 22, 2, 1, 15, 5, 2, 0, 1, 2};
            for (int what = 0; what <= 10; what++) {
                due.due("count(" + what + ")", x.count(what), want[what]);
            }
            due.due("restore()", x.restore(), 1);
        });
        CASES.end();
    }

    private static ColdDepots refusedCamp() {
        ColdDepots x = Due.page("mm;");
        x.camp();
        return x;
    }

    private static void same(Due due, Standing standing) {
        List<String> told = Told.of(() -> {
            ColdDepots x = standing.make();
            x.blank();
            return x;
        });
        due.same("behind blank()", told, Standing.NEW.told());
    }
}
