/** By which few a stage is reached. */
public final class Promise14TeamTest {
    private static final Due DUE = new Due();

    public static void main(String[] args) {
        team("mm;00000", 1, 1);
        team("mm;00000", 2, 1);
        team("mm;00000", 3, ColdDepots.NONE);
        team("dmm;00000", 1, 1);
        team("dmm;00000", 2, 2);
        // two dogs would reach it, too, but one pony is fewer
        team("ddp;00000", 2, 4);
        team("dd;00000", 2, 3);
        team("mhm;00902", 6, 3);
        team("bhm;00902", 6, 6);
        refusals();
        twentyTimes();
        DUE.end();
    }

    private static void team(String camp, int stage, int want) {
        DUE.due("team(" + stage + ") of " + camp, Due.camp(camp).team(stage), want);
    }

    private static void refusals() {
        ColdDepots none = new ColdDepots();
        ColdDepots x = Due.camp("dmm;00000");
        int[] wrong = {0, 7, -1, Integer.MIN_VALUE, Integer.MAX_VALUE};
        for (int stage : wrong) {
            DUE.due("team(" + stage + ")", x.team(stage), ColdDepots.OUTSIDE);
            DUE.due("team(" + stage + ") without a camp", none.team(stage), ColdDepots.OUTSIDE);
        }
        DUE.due("team(1) without a camp", none.team(1), ColdDepots.STATE);
        DUE.due("count(10) behind refusals", x.count(10), 0);
        x.march(2, 6, 0);
        DUE.due("team(2) of who live", x.team(2), 4);
        x.march(5, 6, 0);
        DUE.due("team(1) where nobody lives", x.team(1), ColdDepots.NONE);
        DUE.due("count(10): none is done, too", x.count(10), 2);
    }

    private static void twentyTimes() {
        ColdDepots x = Due.camp("mm;00000");
        x.image();
        for (int done = 1; done <= 20; done++) {
            x.team(0);
            DUE.due("team " + done, x.team(done % 2 == 0 ? 1 : 3), done % 2 == 0 ? 1 : ColdDepots.NONE);
            x.restore();
        }
        DUE.due("team(1) for the 21st time", x.team(1), ColdDepots.STATE);
        DUE.due("team(7) then: OUTSIDE is first", x.team(7), ColdDepots.OUTSIDE);
        Due.type(x, "mm;00000");
        x.camp();
        DUE.due("team(1) of another camp", x.team(1), ColdDepots.STATE);
        DUE.due("count(10)", x.count(10), 20);
    }
}
