/** What would be by a march. */
public final class Promise11WouldTest {
    private static final Due DUE = new Due();

    public static void main(String[] args) {
        refusals();
        would("mm;00000", 3, 1, 5, 3, 1, 0, 0);
        would("mm;00000", 3, 1, 40, 3, 4, 0, 0);
        would("mm;90000", 3, 2, 8, 3, 6, 3, 0);
        would("mm;99999", 3, 4, 20, 0, 0, 45, 5);
        would("mm;99999", 3, 1, 1, 0, 0, 45, 1);
        would("bb;00000", 3, 1, 3, 0, 0, 0, 2);
        would("ddm;00000", 7, 1, 2, 5, 0, 0, 0);
        would("mpd;00000", 7, 1, 3, 1, 3, 0, 0);
        would("mdp;00000", 7, 1, 3, 3, 2, 0, 0);
        would("mp;00000", 3, 4, 12, 0, 0, 0, 8);
        would("mp;00100", 3, 4, 12, 1, 0, 0, 0);
        would("mp;00900", 3, 4, 12, 1, 1, 7, 0);
        would("mm;01000", 3, 3, 8, 0, 0, 0, 5);
        would("dd;00000", 3, 1, 0, 1, 0, 0, 0);
        would("dd;00000", 3, 2, 0, 0, 0, 0, 3);
        would("mh;00902", 3, 6, 7, 1, 1, 5, 0);
        changesNothing();
        DUE.end();
    }

    private static void would(String camp, int members, int stage, int food, int... want) {
        ColdDepots x = Due.camp(camp);
        for (int what = 0; what <= 3; what++) {
            String call = "would(" + members + ", " + stage + ", " + food + ", " + what + ") of " + camp;
            DUE.due(call, x.would(members, stage, food, what), want[what]);
        }
        DUE.due("march() as would() told, of " + camp, x.march(members, stage, food), want[0]);
        DUE.due("count(2) as would() told, of " + camp, x.count(2), want[2]);
    }

    private static void refusals() {
        ColdDepots x = Due.camp("mmm;11111");
        int[] wrong = {-1, 4, Integer.MIN_VALUE, Integer.MAX_VALUE};
        for (int what : wrong) {
            DUE.due("would(1, 1, 9, " + what + ")", x.would(1, 1, 9, what), ColdDepots.OUTSIDE);
        }
        DUE.due("would(0, 1, 9, 0)", x.would(0, 1, 9, 0), ColdDepots.OUTSIDE);
        DUE.due("would(8, 1, 9, 0)", x.would(8, 1, 9, 0), ColdDepots.OUTSIDE);
        DUE.due("would(-1, 1, 9, 0)", x.would(-1, 1, 9, 0), ColdDepots.OUTSIDE);
        DUE.due("would(1, 0, 9, 0)", x.would(1, 0, 9, 0), ColdDepots.OUTSIDE);
        DUE.due("would(1, 7, 9, 0)", x.would(1, 7, 9, 0), ColdDepots.OUTSIDE);
        DUE.due("would(1, 1, -1, 0)", x.would(1, 1, -1, 0), ColdDepots.OUTSIDE);
        DUE.due("would(1, 1, 41, 0)", x.would(1, 1, 41, 0), ColdDepots.OUTSIDE);
        DUE.due("would(1, 1, 40, 0)", x.would(1, 1, 40, 0), 1);
        DUE.due("would(1, 6, 0, 3)", x.would(1, 6, 0, 3), 1);
        DUE.due("would without a camp", new ColdDepots().would(1, 1, 1, 0), ColdDepots.OUTSIDE);
        x.march(2, 6, 0);
        DUE.due("would(3, 1, 9, 0) with one that died", x.would(3, 1, 9, 0), ColdDepots.STATE);
        DUE.due("would(3, 1, 9, 4): OUTSIDE is first", x.would(3, 1, 9, 4), ColdDepots.OUTSIDE);
    }

    private static void changesNothing() {
        ColdDepots x = Due.camp("mdh;99999");
        DUE.due("would(1, 6, 0, 3)", x.would(1, 6, 0, 3), 1);
        DUE.due("would(1, 1, 2, 3) behind a march that died", x.would(1, 1, 2, 3), 0);
        long before = x.digest();
        for (int what = 0; what <= 3; what++) {
            x.would(7, 4, 9, what);
            x.would(7, 6, 0, what);
        }
        DUE.due("would() changes nothing", x.digest(), before);
    }
}
