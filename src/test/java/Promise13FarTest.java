/** The farthest stage from which some would come home. */
public final class Promise13FarTest {
    private static final Due DUE = new Due();

    public static void main(String[] args) {
        far("mm;00000", 1, 2);
        far("mm;00000", 3, 2);
        far("bm;00000", 1, 1);
        far("bm;00000", 2, 2);
        far("bm;00000", 3, 1);
        far("mm;00090", 3, 2);
        far("mm;22000", 3, 3);
        far("mm;99999", 3, 3);
        far("mh;00902", 3, 6);
        far("mh;00901", 3, 5);
        far("bb;00000", 3, 1);
        byCairn();
        refusals();
        DUE.end();
    }

    private static void far(String camp, int members, int want) {
        ColdDepots x = Due.camp(camp);
        DUE.due("far(" + members + ") of " + camp, x.far(members), want);
    }

    private static void byCairn() {
        ColdDepots x = Due.camp("mm;00000");
        x.lay(2, 9);
        DUE.due("far(1) with 9 at cairn 2", x.far(1), 3);
        x.lay(2, 0);
        DUE.due("far(1) with 0 at cairn 2", x.far(1), 2);
        DUE.due("far() changes nothing", x.count(1), 2);
    }

    private static void refusals() {
        ColdDepots x = Due.camp("mmm;00000");
        int[] wrong = {0, 8, 63, -1, Integer.MIN_VALUE, Integer.MAX_VALUE};
        for (int members : wrong) {
            DUE.due("far(" + members + ")", x.far(members), ColdDepots.OUTSIDE);
        }
        DUE.due("far without a camp", new ColdDepots().far(1), ColdDepots.OUTSIDE);
        x.march(2, 6, 0);
        DUE.due("far(2) of one that died", x.far(2), ColdDepots.STATE);
        DUE.due("far(7) with one that died", x.far(7), ColdDepots.STATE);
        DUE.due("far(8): OUTSIDE is first", x.far(8), ColdDepots.OUTSIDE);
        DUE.due("far(5)", x.far(5), 2);
    }
}
