import java.util.List;

/** Boundary cases of promise 19: restore. */
public final class Promise19RestoreEdgeTest {
    private static final Cases CASES = new Cases("19, restore");

    public static void main(String[] args) {
        refused();
        whichIsGone();
        whatComesBack();
        CASES.end();
    }

    private static void refused() {
        CASES.refused("without a camp", ColdDepots.STATE, Standing.WITHOUT_CAMP, ColdDepots::restore);
        CASES.refused("none was kept", ColdDepots.STATE, List.of(Standing.TWO, Standing.SIX), ColdDepots::restore);
        CASES.refused("another camp was read since", ColdDepots.STATE, List.of(Standing.SECOND), ColdDepots::restore);
    }

    private static void whichIsGone() {
        CASES.test("a camp of the same text was read since", due -> {
            ColdDepots x = Standing.TWO.make();
            x.image();
            Due.type(x, Standing.TWO_TEXT);
            x.camp();
            due.due("restore()", x.restore(), ColdDepots.STATE);
            due.due("restore() again", x.restore(), ColdDepots.STATE);
            due.due("a new image()", x.image(), 0);
            due.due("restore() of it", x.restore(), 0);
        });
        CASES.test("a refused camp() leaves it", due -> {
            ColdDepots x = Standing.TWO.make();
            x.image();
            Due.type(x, "mm;0000");
            due.due("camp()", x.camp(), ColdDepots.STATE);
            due.due("restore()", x.restore(), 0);
        });
        CASES.test("a whole camp on the page leaves it, while it is not read", due -> {
            ColdDepots x = Standing.TWO.make();
            x.image();
            Due.type(x, Standing.SIX_TEXT);
            due.due("restore()", x.restore(), 0);
            due.due("camp()", x.camp(), 6);
            due.due("restore() then", x.restore(), ColdDepots.STATE);
        });
        CASES.test("a restore() leaves it", due -> {
            ColdDepots x = Standing.NOBODY.make();
            for (int time = 1; time <= 3; time++) {
                due.due("restore() " + time, x.restore(), 0);
                due.due("who lives", x.count(1), 2);
                due.due("march()", x.march(1, 1, 0), 0);
            }
        });
    }

    private static void whatComesBack() {
        CASES.is("there was no march", Standing.NOBODY.make().restore(), 0);
        CASES.is("there was one march", Standing.MIDWAY.make().restore(), 1);
        CASES.test("who died since, lives", due -> {
            ColdDepots x = Standing.MIDWAY.make();
            due.due("member(1, 4)", x.member(1, 4), 0);
            x.restore();
            due.due("member(1, 4) restored", x.member(1, 4), 1);
            due.due("march(3, 1, 12)", x.march(3, 1, 12), 3);
        });
        CASES.test("who had died, does not", due -> {
            ColdDepots x = Standing.FULL_UP.make();
            x.restore();
            due.due("member(5, 4)", x.member(5, 4), 0);
            due.due("march(32, 1, 4)", x.march(32, 1, 4), ColdDepots.STATE);
        });
        CASES.test("midway: food, marches, who came home, what was heard; not the page, camps, teams", due -> {
            ColdDepots x = Standing.MIDWAY.make();
            x.restore();
            int[] want = {6, 6, 15, 1, 1, 23, 7, 1, 4, 1, 2};
            for (int what = 0; what <= 10; what++) {
                due.due("count(" + what + ")", x.count(what), want[what]);
            }
            due.due("cairn(2, 0)", x.cairn(2, 0), 0);
        });
        CASES.test("full up: the list of what is heard is empty again, the page is full", due -> {
            ColdDepots x = Standing.FULL_UP.make();
            x.restore();
            int[] want = {6, 5, 24, 1, 0, 19, 6, 0, 15, 1, 20};
            for (int what = 0; what <= 10; what++) {
                due.due("count(" + what + ")", x.count(what), want[what]);
            }
            due.due("hear()", x.hear(1, 1, 4, true), 1);
            due.due("letter()", x.letter('m'), ColdDepots.FULL);
            due.due("team(1)", x.team(1), ColdDepots.STATE);
        });
        CASES.test("what goes on from it does not change it", due -> {
            ColdDepots x = Standing.SIX.make();
            x.hear(1, 2, 3, true);
            x.image();
            long kept = x.digest();
            for (int time = 1; time <= 2; time++) {
                x.lay(1, 0);
                x.march(32, 6, 0);
                x.march(1, 1, 4);
                x.forget();
                x.hear(2, 1, 9, false);
                due.due("restore() " + time, x.restore(), 0);
                due.due("digest() " + time, x.digest(), kept);
            }
        });
        CASES.tellsOnly("restore() upon image()", List.of(kept()), ColdDepots::restore);
    }

    private static Standing kept() {
        return Standing.made("with an image just kept", () -> {
            ColdDepots x = Standing.MIDWAY.make();
            x.image();
            return x;
        });
    }
}
