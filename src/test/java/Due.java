/** What the tests share: it counts the answers that are not as due, and tells them. */
final class Due {
    private int wrong;

    static void type(ColdDepots x, String text) {
        for (int place = 0; place < text.length(); place++) {
            x.letter(text.charAt(place));
        }
    }

    /** A new object that has read this camp. */
    static ColdDepots camp(String text) {
        ColdDepots x = new ColdDepots();
        type(x, text);
        x.camp();
        return x;
    }

    void due(String call, long got, long want) {
        if (got != want) {
            wrong++;
            System.out.println(call + " answered " + got + ", due is " + want);
        }
    }

    void end() {
        if (wrong != 0) {
            System.exit(1);
        }
    }
}
