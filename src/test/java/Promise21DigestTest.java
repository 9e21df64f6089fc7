/** The digest, put together here of what the other calls tell. */
public final class Promise21DigestTest {
    private static final Due DUE = new Due();
    private static long h;

    public static void main(String[] args) {
        ColdDepots x = new ColdDepots();
        long empty = 1051;
        for (int what = 0; what <= 10; what++) {
            empty *= 31;
        }
        DUE.due("digest() of a new object", x.digest(), empty);
        Due.type(x, "mh;00902");
        digest("a page alone", x, "mh;00902", 0);
        x.camp();
        DUE.due("TRY of a camp", x.cairn(3, 2), 7);
        digest("a camp", x, "", 3);
        x.hear(3, 6, 7, true);
        x.letter(126);
        x.letter(1);
        DUE.due("LAY of what is heard", x.cairn(3, 1), 1016);
        DUE.due("TRY of what is heard", x.cairn(3, 2), 0);
        digest("something heard", x, "~\u0001", 3);
        x.hear(1, 1, 0, true);
        DUE.due("TRY is none there", x.cairn(3, 2), ColdDepots.NONE);
        digest("something wrong heard", x, "~\u0001", 3);
        x.march(2, 6, 0);
        digest("the husky died", x, "~\u0001", 1);
        x.march(1, 6, 0);
        digest("nobody lives", x, "~\u0001", 0);
        x.team(1);
        digest("a team asked", x, "~\u0001", 0);
        digest("a camp that can pull more than 12", Due.camp("mmp;00080"), "", 7);
        DUE.due("digest() changes nothing", x.digest(), x.digest());
        DUE.end();
    }

    private static void add(long number) {
        h = 31 * h + number;
    }

    private static void digest(String when, ColdDepots x, String page, int living) {
        h = 1051;
        for (int member = 0; member < x.count(0); member++) {
            for (int what = 0; what <= 4; what++) {
                add(x.member(member, what));
            }
        }
        for (int cairn = 1; cairn <= 5 && x.count(0) > 0; cairn++) {
            add(x.cairn(cairn, 0));
            add(x.cairn(cairn, 1));
        }
        if (x.count(0) > 0) {
            add(x.cairn(3, 2));
        }
        if (living != 0) {
            add(x.far(living));
            add(x.need(living, 1));
            add(x.need(living, 4));
            for (int what = 0; what <= 3; what++) {
                add(x.would(living, 5, 12, what));
            }
        }
        for (int place = 0; place < page.length(); place++) {
            add(page.charAt(place));
        }
        for (int what = 0; what <= 10; what++) {
            add(x.count(what));
        }
        DUE.due("digest(): " + when, x.digest(), h);
    }
}
