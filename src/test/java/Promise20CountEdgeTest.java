import java.util.List;

/** Boundary cases of promise 20: count. */
public final class Promise20CountEdgeTest {
    private static final Cases CASES = new Cases("20, count");

    public static void main(String[] args) {
        for (int what : new int[] {-1, Integer.MIN_VALUE, 11, Integer.MAX_VALUE}) {
            CASES.refused("what = " + what + " is OUTSIDE", ColdDepots.OUTSIDE, Standing.ALL, x -> x.count(what));
        }
        for (int what = 0; what <= 10; what++) {
            int asked = what;
            CASES.tellsOnly("count(" + what + ")", Standing.ALL, x -> x.count(asked));
        }
        standing(Standing.NEW, 0, 0, 0, 0, 0, 0, 0, 0, 0, 0, 0);
        standing(Standing.UNREAD, 0, 0, 0, 0, 0, 0, 0, 0, 9, 0, 0);
        standing(Standing.FULL_PAGE, 0, 0, 0, 0, 0, 0, 0, 0, 15, 0, 0);
        standing(Standing.TWO, 2, 2, 11, 0, 0, 7, 2, 0, 0, 1, 0);
        standing(Standing.SIX, 6, 6, 24, 0, 0, 23, 7, 0, 0, 1, 0);
        standing(Standing.MIDWAY, 6, 5, 22, 2, 1, 15, 5, 2, 4, 1, 2);
        standing(Standing.FULL_UP, 6, 5, 24, 1, 0, 19, 6, 6, 15, 1, 20);
        standing(Standing.NOBODY, 2, 0, 11, 2, 0, 0, 0, 0, 0, 1, 0);
        standing(Standing.SECOND, 2, 2, 11, 0, 0, 7, 2, 0, 8, 2, 0);
        extremes();
        countsOn();
        CASES.end();
    }

    private static void standing(Standing standing, int... want) {
        ColdDepots x = standing.make();
        for (int what = 0; what <= 10; what++) {
            CASES.is("count(" + what + ") of " + standing.name(), x.count(what), want[what]);
        }
    }

    private static void extremes() {
        CASES.is("2: the least food", Due.camp("mm;00000").count(2), 0);
        CASES.is("2: the most food", Due.camp("mm;99999").count(2), 45);
        CASES.is("5: six ponies pull 48, more than can be taken", Due.camp("pppppp;00000").count(5), 48);
        CASES.is("6: six ponies eat 12", Due.camp("pppppp;00000").count(6), 12);
        CASES.is("5: two boys pull the least", Due.camp("bb;00000").count(5), 4);
        CASES.test("4: one came home, the other was eaten", due -> {
            ColdDepots x = Due.camp("md;00000");
            due.due("march()", x.march(3, 1, 0), 1);
            due.due("count(4)", x.count(4), 1);
        });
    }

    private static void countsOn() {
        CASES.test("9 and 10 count on, whatever is restored", due -> {
            ColdDepots x = Standing.TWO.make();
            x.image();
            x.team(1);
            x.restore();
            due.due("count(9)", x.count(9), 1);
            due.due("count(10)", x.count(10), 1);
        });
        CASES.test("9 and 10 count on, whatever is read", due -> {
            ColdDepots x = Standing.TWO.make();
            x.team(1);
            for (int camps = 2; camps <= 30; camps++) {
                Due.type(x, "mm;00000");
                x.camp();
                due.due("count(9)", x.count(9), camps);
                due.due("count(10)", x.count(10), 1);
            }
        });
        CASES.test("9: a refused camp() does not count", due -> {
            ColdDepots x = Standing.TWO.make();
            x.camp();
            due.due("count(9)", x.count(9), 1);
        });
        CASES.test("10: a refused team() does not count", due -> {
            ColdDepots x = Standing.TWO.make();
            x.team(0);
            x.team(7);
            due.due("count(10)", x.count(10), 0);
        });
        CASES.test("3 and 4: a refused march() does not count", due -> {
            for (Standing standing : List.of(Standing.MIDWAY, Standing.NOBODY)) {
                ColdDepots x = standing.make();
                int marches = x.count(3);
                int home = x.count(4);
                x.march(2, 1, 9);
                x.march(1, 7, 9);
                due.due("count(3)", x.count(3), marches);
                due.due("count(4)", x.count(4), home);
            }
        });
    }
}
