/** The first letter that no camp has there. */
public final class Promise04FaultTest {
    private static final Due DUE = new Due();

    public static void main(String[] args) {
        String[] starts = {"", "m", "p", "d", "b", "h", "mp", "mp;", "mp;0", "mp;0123", "mp;01234", "hh;99999",
            "mpdbhm", "mpdbhm;", "mpdbhm;09090", "dd;5"};
        for (String text : starts) {
            fault(text, text.length());
        }
        fault(";", 0);
        fault("x", 0);
        fault("M", 0);
        fault("0", 0);
        fault(" mm;00000", 0);
        fault("m;", 1);
        fault("m;00000", 1);
        fault("m0", 1);
        fault("mxx", 1);
        fault("mm0", 2);
        fault("mm:", 2);
        fault("mmmmmmm", 6);
        fault("mmmmmm0", 6);
        fault("mm;;", 3);
        fault("mm;m", 3);
        fault("mm;1/", 4);
        fault("mm;12:", 5);
        fault("mm;12 45", 5);
        fault("mm;123456", 8);
        fault("mm;12345;", 8);
        fault("mm;12345mm", 8);
        fault("mpdbhm;090909", 12);
        fault("mpdbhm;09090mmm", 12);
        DUE.end();
    }

    private static void fault(String text, int want) {
        ColdDepots x = new ColdDepots();
        Due.type(x, text);
        DUE.due("fault() of " + text, x.fault(), want);
        DUE.due("fault() changes nothing of " + text, x.count(8), text.length());
    }
}
