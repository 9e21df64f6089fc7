/** The least food with which some would come home. */
public final class Promise12NeedTest {
    private static final Due DUE = new Due();

    public static void main(String[] args) {
        need("mm;00000", 1, 1, 2);
        need("mm;00000", 1, 2, 4);
        need("mm;00000", 1, 3, ColdDepots.NONE);
        need("mm;00000", 3, 1, 4);
        need("mm;00000", 3, 2, 8);
        need("mm;00000", 3, 6, ColdDepots.NONE);
        need("mm;50000", 1, 2, 3);
        need("mm;09000", 1, 2, 4);
        need("dd;00000", 3, 2, 4);
        need("mp;00000", 3, 2, 0);
        need("mp;00000", 3, 1, 0);
        need("mb;00000", 3, 1, 4);
        need("pppppm;00000", 31, 2, 0);
        refusals();
        DUE.end();
    }

    private static void need(String camp, int members, int stage, int want) {
        ColdDepots x = Due.camp(camp);
        DUE.due("need(" + members + ", " + stage + ") of " + camp, x.need(members, stage), want);
        DUE.due("need() changes nothing of " + camp, x.count(1), x.count(0));
    }

    private static void refusals() {
        ColdDepots x = Due.camp("mmm;11111");
        int[] wrong = {0, 8, -1, Integer.MIN_VALUE, Integer.MAX_VALUE};
        for (int number : wrong) {
            DUE.due("need(" + number + ", 1)", x.need(number, 1), ColdDepots.OUTSIDE);
            DUE.due("need(1, " + number + ")", x.need(1, number), ColdDepots.OUTSIDE);
        }
        DUE.due("need(1, 7)", x.need(1, 7), ColdDepots.OUTSIDE);
        DUE.due("need without a camp", new ColdDepots().need(1, 1), ColdDepots.OUTSIDE);
        x.march(2, 6, 0);
        DUE.due("need(3, 1) with one that died", x.need(3, 1), ColdDepots.STATE);
        DUE.due("need(3, 7): OUTSIDE is first", x.need(3, 7), ColdDepots.OUTSIDE);
        DUE.due("need(5, 1)", x.need(5, 1), 4);
    }
}
