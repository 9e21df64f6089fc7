import java.util.List;

/** Boundary cases of promise 1: a new object has no camp. */
public final class Promise01NewObjectEdgeTest {
    private static final Cases CASES = new Cases("1, a new object");

    public static void main(String[] args) {
        nothingIsThere();
        whatNeedsACampIsRefused();
        ofOneAlone();
        CASES.is("the 512th call is as promised", lastCall(), 15);
        CASES.end();
    }

    private static void nothingIsThere() {
        for (int what = 0; what <= 10; what++) {
            CASES.is("count(" + what + ") is 0", new ColdDepots().count(what), 0);
        }
        CASES.is("fault() of the empty page is 0", new ColdDepots().fault(), 0);
        CASES.is("blank() of the empty page is 0", new ColdDepots().blank(), 0);
        CASES.is("forget() of nothing is 0", new ColdDepots().forget(), 0);
    }

    private static void whatNeedsACampIsRefused() {
        List<Standing> fresh = List.of(Standing.NEW);
        CASES.refused("camp()", ColdDepots.STATE, fresh, ColdDepots::camp);
        CASES.refused("member(0, 0)", ColdDepots.UNKNOWN, fresh, x -> x.member(0, 0));
        CASES.refused("as(0, 0)", ColdDepots.UNKNOWN, fresh, x -> x.as(0, 0));
        CASES.refused("cairn(1, 0)", ColdDepots.UNKNOWN, fresh, x -> x.cairn(1, 0));
        CASES.refused("lay(1, 1)", ColdDepots.UNKNOWN, fresh, x -> x.lay(1, 1));
        CASES.refused("march(1, 1, 2)", ColdDepots.OUTSIDE, fresh, x -> x.march(1, 1, 2));
        CASES.refused("would(1, 1, 2, 0)", ColdDepots.OUTSIDE, fresh, x -> x.would(1, 1, 2, 0));
        CASES.refused("need(1, 1)", ColdDepots.OUTSIDE, fresh, x -> x.need(1, 1));
        CASES.refused("far(1)", ColdDepots.OUTSIDE, fresh, x -> x.far(1));
        CASES.refused("team(1)", ColdDepots.STATE, fresh, x -> x.team(1));
        CASES.refused("hear(1, 1, 2, true)", ColdDepots.OUTSIDE, fresh, x -> x.hear(1, 1, 2, true));
        CASES.refused("winters(1, 1, 2)", ColdDepots.STATE, fresh, x -> x.winters(1, 1, 2));
        CASES.refused("image()", ColdDepots.STATE, fresh, ColdDepots::image);
        CASES.refused("restore()", ColdDepots.STATE, fresh, ColdDepots::restore);
    }

    private static void ofOneAlone() {
        CASES.test("another object's camp, page and image are its own", due -> {
            ColdDepots x = Standing.FULL_UP.make();
            due.same("a new one beside it", Told.of(ColdDepots::new), Standing.NEW.told());
            due.due("the first one's camp", x.count(0), 6);
            due.due("the first one's restore()", x.restore(), 1);
        });
    }

    private static int lastCall() {
        ColdDepots x = new ColdDepots();
        for (int call = 1; call <= 14; call++) {
            x.letter('m');
        }
        for (int call = 15; call <= 511; call++) {
            x.fault();
        }
        return x.letter('m');
    }
}
