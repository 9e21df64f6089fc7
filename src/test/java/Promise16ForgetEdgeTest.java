import java.util.List;

/** Boundary cases of promise 16: forget. */
public final class Promise16ForgetEdgeTest {
    private static final Cases CASES = new Cases("16, forget");

    public static void main(String[] args) {
        List<Standing> nothing = List.of(Standing.NEW, Standing.HALF_PAGE, Standing.TWO, Standing.NOBODY,
            Standing.SECOND);
        CASES.tellsOnly("forget() of nothing", nothing, ColdDepots::forget);
        CASES.is("nothing is heard, without a camp", new ColdDepots().forget(), 0);
        CASES.is("nothing is heard, with a camp", Standing.TWO.make().forget(), 0);
        CASES.is("one is heard", one().forget(), 1);
        CASES.is("six are heard", Standing.FULL_UP.make().forget(), 6);
        CASES.is("what was heard of another camp", Standing.SECOND.make().forget(), 0);
        CASES.test("again", due -> {
            ColdDepots x = Standing.FULL_UP.make();
            x.forget();
            due.due("forget()", x.forget(), 0);
            due.due("count(7)", x.count(7), 0);
        });
        CASES.test("LAY is as if nothing had been heard", due -> {
            ColdDepots x = one();
            due.due("ahead of it", x.cairn(1, 1), 0);
            x.forget();
            due.due("behind it", x.cairn(1, 1), 1023);
        });
        CASES.test("what is heard then stands alone", due -> {
            ColdDepots x = one();
            x.forget();
            due.due("hear()", x.hear(1, 2, 3, false), 1);
            due.due("LAY", x.cairn(1, 1), 1);
        });
        CASES.test("the image keeps what was heard", due -> {
            ColdDepots x = one();
            x.image();
            x.forget();
            x.restore();
            due.due("forget()", x.forget(), 1);
        });
        CASES.test("it is heard alone that is forgotten", due -> {
            ColdDepots x = Standing.MIDWAY.make();
            x.forget();
            int[] want = {6, 5, 22, 2, 1, 15, 5, 0, 4, 1, 2};
            for (int what = 0; what <= 10; what++) {
                due.due("count(" + what + ")", x.count(what), want[what]);
            }
        });
        CASES.end();
    }

    /** One thing is heard, and it can't be so. */
    private static ColdDepots one() {
        ColdDepots x = Due.camp("mm;00000");
        x.hear(1, 1, 0, true);
        return x;
    }
}
