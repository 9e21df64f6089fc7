import java.util.List;

/** What the tests share: it counts the answers that are not as due, and tells them. */
final class Due {
    private int wrong;

    static void type(ColdDepots x, String text) {
        for (int place = 0; place < text.length(); place++) {
            x.letter(text.charAt(place));
        }
    }

    /** A new object with this page. */
    static ColdDepots page(String text) {
        ColdDepots x = new ColdDepots();
        type(x, text);
        return x;
    }

    /** A new object that has read this camp. */
    static ColdDepots camp(String text) {
        ColdDepots x = page(text);
        x.camp();
        return x;
    }

    void due(String call, long got, long want) {
        if (got != want) {
            wrong++;
            System.out.println(call + " answered " + got + ", due is " + want);
        }
    }

    /** Tells the first line alone that is not the same. */
    void same(String when, List<String> got, List<String> want) {
        for (int place = 0; place < Math.max(got.size(), want.size()); place++) {
            String one = place < got.size() ? got.get(place) : "nothing";
            String other = place < want.size() ? want.get(place) : "nothing";
            if (!one.equals(other)) {
                wrong++;
                System.out.println(when + ": told is " + one + ", due is " + other);
                return;
            }
        }
    }

    boolean holds() {
        return wrong == 0;
    }

    void end() {
        if (!holds()) {
            System.exit(1);
        }
    }
}
