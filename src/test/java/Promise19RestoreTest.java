/** It goes on from the image. */
public final class Promise19RestoreTest {
    private static final Due DUE = new Due();

    public static void main(String[] args) {
        ColdDepots x = Due.camp("mmd;91234");
        DUE.due("restore(): none was kept", x.restore(), ColdDepots.STATE);
        x.march(1, 2, 4);
        x.hear(1, 2, 3, true);
        x.hear(3, 2, 6, false);
        x.image();
        int[] kept = counts(x);
        DUE.due("LAY: a man with 3 needs 1, two with 6 need 2", x.cairn(1, 1), 2);
        spoil(x);
        DUE.due("restore()", x.restore(), 1);
        same("restored", x, kept);
        DUE.due("cairn(1, 0)", x.cairn(1, 0), 6);
        DUE.due("cairn(5, 0)", x.cairn(5, 0), 4);
        DUE.due("LAY is as it was", x.cairn(1, 1), 2);
        DUE.due("the dog lives", x.member(2, 4), 1);
        DUE.due("the page is no part of the image", x.count(8), 2);
        DUE.due("count(10) counts on", x.count(10), 1);
        spoil(x);
        DUE.due("restore() again", x.restore(), 1);
        same("restored again", x, kept);
        gone(x);
        DUE.end();
    }

    private static void spoil(ColdDepots x) {
        x.march(4, 6, 0);
        x.march(2, 1, 9);
        x.lay(1, 0);
        x.lay(5, 9);
        x.forget();
        x.hear(4, 1, 0, false);
        x.hear(4, 1, 0, true);
        x.hear(3, 2, 1, false);
        x.letter('m');
        x.letter(';');
        x.team(1);
        x.blank();
        x.letter('m');
        x.letter(';');
    }

    private static int[] counts(ColdDepots x) {
        int[] counts = new int[8];
        for (int what = 0; what < 8; what++) {
            counts[what] = x.count(what);
        }
        return counts;
    }

    private static void same(String when, ColdDepots x, int[] kept) {
        for (int what = 0; what < 8; what++) {
            DUE.due(when + " count(" + what + ")", x.count(what), kept[what]);
        }
    }

    private static void gone(ColdDepots x) {
        x.image();
        x.blank();
        Due.type(x, "mmd;9");
        DUE.due("camp() of a part", x.camp(), ColdDepots.STATE);
        DUE.due("restore() behind it", x.restore(), 1);
        Due.type(x, "1234");
        x.camp();
        DUE.due("restore() behind a camp of the same text", x.restore(), ColdDepots.STATE);
        x.image();
        DUE.due("restore() of a new image", x.restore(), 0);
    }
}
