import java.math.BigInteger;
import java.util.ArrayList;
import java.util.List;

/** Boundary cases of promise 21: digest. */
public final class Promise21DigestEdgeTest {
    private static final Cases CASES = new Cases("21, digest");

    public static void main(String[] args) {
        CASES.tellsOnly("digest()", Standing.ALL, ColdDepots::digest);
        digest(Standing.NEW, "", 0);
        digest(Standing.HALF_PAGE, "mp;0", 0);
        digest(Standing.UNREAD, "mpd;12345", 0);
        digest(Standing.FULL_PAGE, "mpdbhm;12345~~~", 0);
        digest(Standing.page("\u0001~\u0001~\u0001~\u0001~\u0001~\u0001~\u0001~\u0001"),
            "\u0001~\u0001~\u0001~\u0001~\u0001~\u0001~\u0001~\u0001", 0);
        digest(Standing.TWO, "", 3);
        digest(Standing.SIX, "", 63);
        digest(Standing.MIDWAY, "hh;1", 61);
        digest(Standing.FULL_UP, "mpdbhm;12345~~~", 31);
        digest(Standing.NOBODY, "", 0);
        digest(Standing.SECOND, Standing.TWO_TEXT, 3);
        digest(heardWrong(), "", 3);
        digest(noneAtCairn3(), "", 15);
        digest(Standing.made("a camp to which 11, 12 and 13 are not the same", () -> Due.camp("pmh;50265")), "", 7);
        CASES.test("of a new object: the eleven counts are 0", due -> {
            due.due("digest()", new ColdDepots().digest(), 1051 * Digests.power(11));
        });
        CASES.test("LAY of cairns 2, 3 and 4 where it is none at 3 alone", due -> {
            ColdDepots x = noneAtCairn3().make();
            due.due("cairn(2, 1)", x.cairn(2, 1), 1020);
            due.due("cairn(3, 1)", x.cairn(3, 1), 0);
            due.due("cairn(4, 1)", x.cairn(4, 1), 1008);
        });
        CASES.test("TRY is none and NEED is none in it", due -> {
            ColdDepots x = heardWrong().make();
            due.due("TRY", x.cairn(3, 2), ColdDepots.NONE);
            due.due("NEED", x.need(3, 4), ColdDepots.NONE);
        });
        CASES.end();
    }

    private static Standing heardWrong() {
        return Standing.made("something wrong is heard", () -> {
            ColdDepots x = Due.camp("mm;12345");
            x.hear(1, 1, 0, true);
            return x;
        });
    }

    /** Only at cairn 3 nothing fits: TRY is to be told of the LAY of cairn 3. */
    private static Standing noneAtCairn3() {
        return Standing.made("LAY is none at cairn 3, but not at 2 and 4", () -> {
            ColdDepots x = Due.camp("pbhd;00000");
            x.hear(15, 5, 18, true);
            return x;
        });
    }

    /** With a page whose letters are known, and the bits of who lives. */
    private static void digest(Standing standing, String page, int living) {
        List<Long> numbers = new ArrayList<>();
        ColdDepots x = standing.make();
        for (int place = 0; place < 5 * x.count(0); place++) {
            numbers.add((long) x.member(place / 5, place % 5));
        }
        for (int cairn = 1; cairn <= 5 && x.count(0) > 0; cairn++) {
            numbers.add((long) x.cairn(cairn, 0));
            numbers.add((long) x.cairn(cairn, 1));
        }
        if (x.count(0) > 0) {
            numbers.add((long) x.cairn(3, 2));
        }
        if (living != 0) {
            numbers.add((long) x.far(living));
            numbers.add((long) x.need(living, 1));
            numbers.add((long) x.need(living, 4));
            for (int what = 0; what <= 3; what++) {
                numbers.add((long) x.would(living, 5, 12, what));
            }
        }
        for (char letter : page.toCharArray()) {
            numbers.add((long) letter);
        }
        for (int what = 0; what <= 10; what++) {
            numbers.add((long) x.count(what));
        }
        BigInteger whole = Digests.whole(numbers);
        CASES.is("of " + standing.name() + ", wrapping", x.digest(), whole.longValue());
        CASES.is("of " + standing.name() + ": 64 bits do not hold it", whole.bitLength() > 63 ? 1 : 0, 1);
    }
}
