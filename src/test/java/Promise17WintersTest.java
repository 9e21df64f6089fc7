/** Winters by a seed, as they would be. */
public final class Promise17WintersTest {
    private static final Due DUE = new Due();

    public static void main(String[] args) {
        refusals();
        // what creeps out by seed 0: 0 0 1 1 0; by seed 1: 2 1 0 1 1, then 2 0 0 0 0
        winters("mm;99999", 1, 0, 43, 3, 229283573);
        winters("mm;99999", 1, 1, 40, 3, 2035015474);
        winters("mm;99999", 2, 1, 38, 3, 267834847);
        winters("mm;99999", 1, Integer.MAX_VALUE, 39, 3, 571035320);
        winters("mm;99999", 20, 7, 0, 2, 1450707267);
        winters("mm;10219", 1, 1, 10, 2, 2035015474);
        winters("mm;22000", 1, 0, 4, 3, 229283573);
        winters("mm;22000", 1, 1, 1, 2, 2035015474);
        whoLives();
        DUE.end();
    }

    private static void winters(String camp, int many, int seed, int... want) {
        ColdDepots x = Due.camp(camp);
        int before = x.count(2);
        for (int what = 0; what <= 2; what++) {
            String call = "winters(" + many + ", " + seed + ", " + what + ") of " + camp;
            DUE.due(call, x.winters(many, seed, what), want[what]);
        }
        DUE.due("winters() change nothing of " + camp, x.count(2), before);
    }

    private static void whoLives() {
        ColdDepots x = Due.camp("bm;00000");
        DUE.due("how far all are", x.winters(1, 0, 1), 1);
        x.march(1, 6, 0);
        DUE.due("how far the man is", x.winters(1, 0, 1), 2);
        x.march(2, 6, 0);
        x.lay(5, 9);
        DUE.due("how far nobody is", x.winters(1, 0, 1), 0);
        DUE.due("how much there is for nobody", x.winters(1, 0, 0), 9);
    }

    private static void refusals() {
        ColdDepots none = new ColdDepots();
        ColdDepots x = Due.camp("mm;00000");
        int[] wrong = {-1, Integer.MIN_VALUE};
        for (int number : wrong) {
            DUE.due("winters(" + number + ", 1, 0)", x.winters(number, 1, 0), ColdDepots.OUTSIDE);
            DUE.due("winters(1, " + number + ", 0)", x.winters(1, number, 0), ColdDepots.OUTSIDE);
            DUE.due("winters(1, 1, " + number + ")", x.winters(1, 1, number), ColdDepots.OUTSIDE);
            DUE.due("winters(" + number + ", 1, 0) without a camp", none.winters(number, 1, 0), ColdDepots.OUTSIDE);
        }
        DUE.due("winters(0, 1, 0)", x.winters(0, 1, 0), ColdDepots.OUTSIDE);
        DUE.due("winters(21, 1, 0)", x.winters(21, 1, 0), ColdDepots.OUTSIDE);
        DUE.due("winters(MAX, 1, 0)", x.winters(Integer.MAX_VALUE, 1, 0), ColdDepots.OUTSIDE);
        DUE.due("winters(1, 1, 3)", x.winters(1, 1, 3), ColdDepots.OUTSIDE);
        DUE.due("winters(1, 1, 3) without a camp", none.winters(1, 1, 3), ColdDepots.OUTSIDE);
        for (int what = 0; what <= 2; what++) {
            DUE.due("winters(1, 1, " + what + ") without a camp", none.winters(1, 1, what), ColdDepots.STATE);
        }
    }
}
