/** Boundary cases of promise 4: fault, and of the text of a camp. */
public final class Promise04FaultEdgeTest {
    private static final Cases CASES = new Cases("4, fault");

    public static void main(String[] args) {
        lengths();
        members();
        digits();
        letters();
        CASES.tellsOnly("fault()", Standing.ALL, ColdDepots::fault);
        CASES.end();
    }

    private static void fault(String name, String text, int want) {
        CASES.is(name + ": " + text, Due.page(text).fault(), want);
    }

    private static void lengths() {
        fault("the empty page", "", 0);
        CASES.is("the empty page behind camp()", Standing.TWO.make().fault(), 0);
        fault("the first letter is wrong", "~", 0);
        fault("the first letter is wrong, code 1", "\u0001", 0);
        fault("all letters are wrong, the first is told", "~~~~~~~~~~~~~~~", 0);
        fault("two are wrong, the first is told", "mm;x2y", 3);
        fault("a full page, wrong behind the longest camp", "mpdbhm;12345~~~", 12);
        fault("a full page, wrong behind the shortest camp", "mm;12345mm;1234", 8);
        for (String camp : new String[] {"mm;00000", "hb;99999", "mpdbhm;09090"}) {
            for (int length = 0; length <= camp.length(); length++) {
                fault("none wrong, " + length + " letters of " + camp, camp.substring(0, length), length);
            }
        }
    }

    private static void members() {
        fault("no member, then ';'", ";", 0);
        fault("one member is too few", "m;", 1);
        fault("one member is too few, the rest right", "m;12345", 1);
        fault("two members are the fewest", "mm;", 3);
        fault("six members are the most", "mpdbhm", 6);
        fault("six members are the most, then ';'", "mpdbhm;", 7);
        fault("a seventh member", "mpdbhmp", 6);
        fault("a seventh member, the rest right", "mpdbhmp;12345", 6);
        fault("a digit where ';' is due behind two", "mm0", 2);
        fault("a digit where ';' is due behind six", "mpdbhm0", 6);
        fault("a second ';'", "mm;;", 3);
        fault("a member behind ';'", "mm;m", 3);
    }

    private static void digits() {
        fault("digit 0 is the least", "mm;0", 4);
        fault("digit 9 is the most", "mm;9", 4);
        fault("ahead of 0", "mm;/", 3);
        fault("behind 9", "mm;:", 3);
        fault("the fifth digit 0", "mm;00000", 8);
        fault("the fifth digit 9", "mm;99999", 8);
        fault("ahead of 0 as the fifth", "mm;0000/", 7);
        fault("behind 9 as the fifth", "mm;9999:", 7);
        fault("a sixth digit, of a camp of two", "mm;123456", 8);
        fault("a sixth digit, of a camp of six", "mpdbhm;123456", 12);
        fault("';' behind the fifth digit", "mm;12345;", 8);
    }

    /** Each code there is, behind these letters: those of a camp are right there, all others wrong. */
    private static void each(String name, String ahead, String right) {
        CASES.test("each code " + name, due -> {
            for (int code = 1; code <= 126; code++) {
                boolean isRight = right.indexOf((char) code) >= 0;
                int want = ahead.length() + (isRight ? 1 : 0);
                due.due("fault() with code " + code, Due.page(ahead + (char) code).fault(), want);
            }
        });
    }

    private static void letters() {
        each("as the first letter", "", "mpdbh");
        each("as the second letter", "m", "mpdbh");
        each("behind two members", "mm", "mpdbh;");
        each("behind five members", "mpdbh", "mpdbh;");
        each("behind six members", "mpdbhm", ";");
        each("behind ';'", "mm;", "0123456789");
        each("as the fifth digit", "mm;1234", "0123456789");
        each("behind a whole camp of two", "mm;12345", "");
        each("behind a whole camp of six", "mpdbhm;12345", "");
    }
}
