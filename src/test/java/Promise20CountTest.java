/** How many there are of all. */
public final class Promise20CountTest {
    private static final Due DUE = new Due();

    public static void main(String[] args) {
        ColdDepots x = new ColdDepots();
        int[] wrong = {-1, 11, Integer.MIN_VALUE, Integer.MAX_VALUE};
        for (int what : wrong) {
            DUE.due("count(" + what + ")", x.count(what), ColdDepots.OUTSIDE);
        }
        counts("a new object", x, 0, 0, 0, 0, 0, 0, 0, 0, 0, 0, 0);
        Due.type(x, "mpdbh;12345");
        counts("ahead of camp()", x, 0, 0, 0, 0, 0, 0, 0, 0, 11, 0, 0);
        x.camp();
        counts("a camp", x, 5, 5, 15, 0, 0, 19, 6, 0, 0, 1, 0);
        x.march(2, 4, 8);
        counts("the pony died", x, 5, 4, 15, 1, 0, 11, 4, 0, 0, 1, 0);
        x.march(1, 2, 4);
        counts("a man came home", x, 5, 4, 14, 2, 1, 11, 4, 0, 0, 1, 0);
        x.march(0, 2, 4);
        x.team(1);
        x.team(7);
        x.hear(1, 1, 1, false);
        x.letter('h');
        counts("more", x, 5, 4, 14, 2, 1, 11, 4, 1, 1, 1, 1);
        x.image();
        x.march(1 + 4 + 8 + 16, 6, 0);
        x.team(1);
        counts("all died", x, 5, 0, 14, 3, 1, 0, 0, 1, 1, 1, 2);
        x.restore();
        counts("restored", x, 5, 4, 14, 2, 1, 11, 4, 1, 1, 1, 2);
        Due.type(x, "b;00001");
        x.camp();
        counts("another camp", x, 2, 2, 1, 0, 0, 5, 2, 0, 0, 2, 2);
        for (int what : wrong) {
            DUE.due("count(" + what + ") with a camp", x.count(what), ColdDepots.OUTSIDE);
        }
        DUE.end();
    }

    private static void counts(String when, ColdDepots x, int... want) {
        for (int what = 0; what <= 10; what++) {
            DUE.due(when + ": count(" + what + ")", x.count(what), want[what]);
        }
    }
}
