/** The page is read as the camp. */
public final class Promise05CampTest {
    private static final Due DUE = new Due();

    public static void main(String[] args) {
        read("mm;00000", 2);
        read("mpd;00000", 3);
        read("mpdb;00000", 4);
        read("mpdbh;12345", 5);
        read("hhhhhh;99999", 6);
        String[] wrong = {"", "m", "mm", "mm;", "mm;1234", "mm;123456", "m;12345", "mmmmmmm;12345", "mm;12a45",
            "xm;12345", "mm,12345", "mm;12345;"};
        for (String text : wrong) {
            ColdDepots x = new ColdDepots();
            Due.type(x, text);
            DUE.due("camp() of " + text, x.camp(), ColdDepots.STATE);
            DUE.due("the page stays: " + text, x.count(8), Math.min(15, text.length()));
            DUE.due("none is read: " + text, x.count(9), 0);
        }
        anotherIsGone();
        refusedItStays();
        DUE.end();
    }

    private static void read(String text, int members) {
        ColdDepots x = new ColdDepots();
        Due.type(x, text);
        DUE.due("camp() of " + text, x.camp(), members);
        DUE.due("count(0) of " + text, x.count(0), members);
        DUE.due("count(1) of " + text, x.count(1), members);
        DUE.due("count(8) of " + text, x.count(8), 0);
        DUE.due("count(9) of " + text, x.count(9), 1);
        for (int member = 0; member < members; member++) {
            DUE.due("kind " + member + " of " + text, x.member(member, 0), "mpdbh".indexOf(text.charAt(member)));
        }
        for (int cairn = 1; cairn <= 5; cairn++) {
            DUE.due("cairn " + cairn + " of " + text, x.cairn(cairn, 0), text.charAt(members + cairn) - '0');
        }
    }

    private static void anotherIsGone() {
        ColdDepots x = Due.camp("mmm;99999");
        x.march(1, 1, 4);
        x.march(2, 6, 0);
        x.hear(1, 1, 1, true);
        x.image();
        x.team(1);
        Due.type(x, "bp;00100");
        DUE.due("camp() again", x.camp(), 2);
        int[] want = {2, 2, 1, 0, 0, 10, 3, 0, 0, 2, 1};
        for (int what = 0; what <= 10; what++) {
            DUE.due("count(" + what + ") of another camp", x.count(what), want[what]);
        }
        DUE.due("member(2, 0) is gone", x.member(2, 0), ColdDepots.UNKNOWN);
        DUE.due("march(4, 1, 1) is gone", x.march(4, 1, 1), ColdDepots.OUTSIDE);
        DUE.due("the image is gone", x.restore(), ColdDepots.STATE);
        DUE.due("LAY: nothing is heard", x.cairn(1, 1), 1023);
    }

    private static void refusedItStays() {
        ColdDepots x = Due.camp("mmm;99999");
        x.march(1, 1, 4);
        x.image();
        Due.type(x, "bp;0010");
        DUE.due("camp() of a part", x.camp(), ColdDepots.STATE);
        DUE.due("count(0) behind it", x.count(0), 3);
        DUE.due("count(3) behind it", x.count(3), 1);
        DUE.due("restore() behind it", x.restore(), 1);
        x.letter('0');
        DUE.due("camp() of the whole", x.camp(), 2);
    }
}
