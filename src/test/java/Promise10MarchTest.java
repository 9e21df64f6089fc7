/** A march, and what it changes. */
public final class Promise10MarchTest {
    private static final Due DUE = new Due();

    public static void main(String[] args) {
        refusals();
        marches();
        changes();
        deaths();
        DUE.end();
    }

    private static void refusals() {
        ColdDepots x = Due.camp("mmm;11111");
        int[] nobody = {0, 8, 15, -1, 1 << 31, Integer.MAX_VALUE};
        for (int members : nobody) {
            DUE.due("march(" + members + ", 1, 9)", x.march(members, 1, 9), ColdDepots.OUTSIDE);
        }
        int[] nowhere = {0, 7, -1, Integer.MIN_VALUE, Integer.MAX_VALUE};
        for (int stage : nowhere) {
            DUE.due("march(1, " + stage + ", 9)", x.march(1, stage, 9), ColdDepots.OUTSIDE);
        }
        int[] wrong = {-1, 41, Integer.MIN_VALUE, Integer.MAX_VALUE};
        for (int food : wrong) {
            DUE.due("march(1, 1, " + food + ")", x.march(1, 1, food), ColdDepots.OUTSIDE);
        }
        DUE.due("march without a camp", new ColdDepots().march(1, 1, 9), ColdDepots.OUTSIDE);
        DUE.due("count(3) behind refusals", x.count(3), 0);
        DUE.due("march(2, 6, 0)", x.march(2, 6, 0), 0);
        DUE.due("march(2, 1, 9) of one that died", x.march(2, 1, 9), ColdDepots.STATE);
        DUE.due("march(3, 1, 9) with one that died", x.march(3, 1, 9), ColdDepots.STATE);
        DUE.due("march(3, 0, 9): OUTSIDE is first", x.march(3, 0, 9), ColdDepots.OUTSIDE);
        DUE.due("march(3, 1, 41): OUTSIDE is first", x.march(3, 1, 41), ColdDepots.OUTSIDE);
        DUE.due("march(5, 1, 40)", x.march(5, 1, 40), 5);
        DUE.due("count(1)", x.count(1), 2);
        DUE.due("count(2)", x.count(2), 5);
    }

    private static void march(String camp, int members, int stage, int food, int home) {
        String call = "march(" + members + ", " + stage + ", " + food + ") of " + camp;
        DUE.due(call, Due.camp(camp).march(members, stage, food), home);
    }

    private static void marches() {
        march("mm;00000", 3, 1, 4, 3);
        march("mm;00000", 3, 1, 3, 0);
        march("mm;00000", 3, 2, 8, 3);
        march("mm;00000", 3, 2, 7, 0);
        march("mm;00000", 2, 2, 4, 2);
        march("mm;00000", 3, 3, 40, 0);
        // the dog of the greatest number is eaten for the others
        march("ddm;00000", 7, 1, 2, 5);
        march("mdd;00000", 7, 1, 2, 3);
        march("hhm;00000", 7, 1, 2, 5);
        march("dm;00000", 3, 1, 1, 2);
        // a boy is no beast
        march("bb;00000", 3, 1, 3, 0);
        march("mb;00000", 3, 1, 3, 0);
        // nobody is left where the last is eaten
        march("dd;00000", 3, 1, 0, 1);
        march("dd;00000", 3, 2, 0, 0);
        // ponies sink behind stage 3, and feed a man home from stage 4 with 1 at cairn 3
        march("mp;00000", 3, 3, 12, 1);
        march("mp;00000", 3, 4, 12, 0);
        march("mp;00100", 3, 4, 12, 1);
        march("pp;99999", 3, 4, 16, 0);
        march("pp;99999", 3, 3, 16, 3);
    }

    private static void changes() {
        ColdDepots x = Due.camp("mmd;90009");
        DUE.due("march(3, 2, 8)", x.march(3, 2, 8), 3);
        DUE.due("at cairn 1 they took what they can pull", x.cairn(1, 0), 3);
        DUE.due("march(3, 1, 4)", x.march(3, 1, 4), 3);
        DUE.due("where they turn they take nothing", x.cairn(1, 0), 3);
        DUE.due("count(3)", x.count(3), 2);
        DUE.due("count(4)", x.count(4), 2);
        DUE.due("march(5, 1, 1): the dog is eaten", x.march(5, 1, 1), 1);
        DUE.due("member(2, 4)", x.member(2, 4), 0);
        DUE.due("member(1, 4)", x.member(1, 4), 1);
        DUE.due("march(4, 1, 2) of the dog", x.march(4, 1, 2), ColdDepots.STATE);
        DUE.due("count(1)", x.count(1), 2);
        DUE.due("march(3, 2, 7)", x.march(3, 2, 7), 3);
        DUE.due("at cairn 1 they took all", x.cairn(1, 0), 0);
    }

    private static void deaths() {
        ColdDepots x = Due.camp("mmb;09010");
        DUE.due("march(3, 4, 8)", x.march(3, 4, 8), 0);
        DUE.due("count(1)", x.count(1), 1);
        DUE.due("count(3)", x.count(3), 1);
        DUE.due("count(4)", x.count(4), 0);
        DUE.due("who dies on the way out took nothing", x.count(2), 10);
        x = Due.camp("mm;01000");
        DUE.due("march(3, 3, 8)", x.march(3, 3, 8), 0);
        DUE.due("who dies on the way home took it", x.count(2), 0);
    }
}
