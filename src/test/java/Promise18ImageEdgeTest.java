import java.util.List;

/** Boundary cases of promise 18: image. */
public final class Promise18ImageEdgeTest {
    private static final Cases CASES = new Cases("18, image");

    public static void main(String[] args) {
        CASES.refused("without a camp", ColdDepots.STATE, Standing.WITHOUT_CAMP, ColdDepots::image);
        CASES.is("there was no march", Standing.SIX.make().image(), 0);
        CASES.is("there was a march whence nobody came home", marched(0).image(), 1);
        CASES.is("there was a march whence one came home", marched(2).image(), 1);
        CASES.is("there were two marches", Standing.NOBODY.make().image(), 2);
        CASES.is("nobody lives", Standing.NOBODY.make().image() + Standing.NOBODY.make().count(1), 2);
        CASES.is("of a second camp", Standing.SECOND.make().image(), 0);
        CASES.test("the latest alone is kept", due -> {
            ColdDepots x = Standing.SIX.make();
            due.due("the first", x.image(), 0);
            x.march(1, 1, 4);
            due.due("the second", x.image(), 1);
            x.march(1, 1, 4);
            due.due("restore()", x.restore(), 1);
            due.due("restore() again", x.restore(), 1);
        });
        CASES.test("a refused image() leaves the one that is gone, gone", due -> {
            ColdDepots x = new ColdDepots();
            due.due("image()", x.image(), ColdDepots.STATE);
            Due.type(x, "mm;00000");
            x.camp();
            due.due("restore()", x.restore(), ColdDepots.STATE);
        });
        CASES.test("but for the image it changes nothing", due -> {
            for (Standing standing : List.of(Standing.TWO, Standing.SIX, Standing.MIDWAY, Standing.FULL_UP)) {
                ColdDepots x = standing.make();
                long before = x.digest();
                x.image();
                due.due("digest(), " + standing.name(), x.digest(), before);
                x.restore();
                due.due("digest() restored, " + standing.name(), x.digest(), before);
            }
        });
        keeps();
        CASES.end();
    }

    private static ColdDepots marched(int food) {
        ColdDepots x = Due.camp("mm;00000");
        x.march(1, 1, food);
        return x;
    }

    private static void keeps() {
        CASES.test("it keeps the empty list of what is heard", due -> {
            ColdDepots x = Standing.SIX.make();
            x.image();
            x.hear(1, 1, 0, true);
            x.restore();
            due.due("count(7)", x.count(7), 0);
            due.due("LAY", x.cairn(1, 1), 1023);
        });
        CASES.test("it keeps the full list of what is heard", due -> {
            ColdDepots x = Due.camp("mm;00000");
            for (int heard = 1; heard <= 6; heard++) {
                x.hear(1, 2, heard < 6 ? 4 : 3, true);
            }
            x.image();
            x.forget();
            x.hear(1, 1, 0, true);
            x.restore();
            due.due("count(7)", x.count(7), 6);
            due.due("LAY: the sixth is weighed", x.cairn(1, 1), 1022);
            due.due("the seventh", x.hear(1, 1, 0, true), ColdDepots.FULL);
        });
        CASES.test("it keeps each cairn", due -> {
            ColdDepots x = Due.camp("mm;90519");
            x.image();
            for (int cairn = 1; cairn <= 5; cairn++) {
                x.lay(cairn, 4);
            }
            x.restore();
            int[] want = {9, 0, 5, 1, 9};
            for (int cairn = 1; cairn <= 5; cairn++) {
                due.due("cairn(" + cairn + ", 0)", x.cairn(cairn, 0), want[cairn - 1]);
            }
        });
    }
}
