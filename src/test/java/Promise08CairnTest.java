/** What is told of a cairn: its food, what can lie there, what to try next. */
public final class Promise08CairnTest {
    private static final Due DUE = new Due();

    public static void main(String[] args) {
        refusals();
        foods();
        amounts();
        asItIsNow();
        trials();
        DUE.end();
    }

    private static void refusals() {
        ColdDepots none = new ColdDepots();
        ColdDepots x = Due.camp("mm;12345");
        int[] wrong = {0, 6, -1, Integer.MIN_VALUE, Integer.MAX_VALUE};
        for (int number : wrong) {
            DUE.due("cairn(" + number + ", 0)", x.cairn(number, 0), ColdDepots.UNKNOWN);
            DUE.due("cairn(" + number + ", 7): UNKNOWN is first", x.cairn(number, 7), ColdDepots.UNKNOWN);
        }
        int[] nothing = {-1, 3, Integer.MIN_VALUE, Integer.MAX_VALUE};
        for (int what : nothing) {
            DUE.due("cairn(5, " + what + ")", x.cairn(5, what), ColdDepots.OUTSIDE);
            DUE.due("cairn(5, " + what + ") without a camp", none.cairn(5, what), ColdDepots.UNKNOWN);
        }
        DUE.due("cairn(1, 1) without a camp", none.cairn(1, 1), ColdDepots.UNKNOWN);
        DUE.due("cairn(1, 2) without a camp", none.cairn(1, 2), ColdDepots.UNKNOWN);
    }

    private static void foods() {
        ColdDepots x = Due.camp("mm;12345");
        for (int cairn = 1; cairn <= 5; cairn++) {
            DUE.due("cairn(" + cairn + ", 0)", x.cairn(cairn, 0), cairn);
            DUE.due("cairn(" + cairn + ", 1), nothing is heard", x.cairn(cairn, 1), 1023);
            DUE.due("cairn(" + cairn + ", 2), nobody can come home", x.cairn(cairn, 2), 0);
        }
    }

    /** A man with 3 is at stage 2 with 1, at cairn 1 with 0: without food there he dies. */
    private static void amounts() {
        ColdDepots x = Due.camp("mm;00000");
        x.hear(1, 2, 3, true);
        DUE.due("LAY of cairn 1", x.cairn(1, 1), 1022);
        DUE.due("LAY of cairn 2", x.cairn(2, 1), 0);
        DUE.due("TRY of cairn 2: none", x.cairn(2, 2), ColdDepots.NONE);
        DUE.due("TRY of cairn 1", x.cairn(1, 2), 0);
        x.hear(1, 2, 3, false);
        DUE.due("LAY of what can't be", x.cairn(1, 1), 0);
        x.forget();
        x.hear(1, 2, 3, false);
        DUE.due("LAY of who did not come", x.cairn(1, 1), 1);
        DUE.due("LAY of cairn 3: he did not come", x.cairn(3, 1), 1023);
        x.march(1, 6, 0);
        DUE.due("LAY: as if all lived", x.cairn(1, 1), 1);
        x.forget();
        x.hear(3, 3, 8, true);
        DUE.due("LAY of cairn 1: two men with 8 have nothing left at stage 2", x.cairn(1, 1), 0);
        DUE.due("LAY of cairn 2: they need 4 there", x.cairn(2, 1), 1008);
        x.lay(1, 2);
        DUE.due("LAY of cairn 2: they need 2 there now", x.cairn(2, 1), 1020);
    }

    private static void asItIsNow() {
        ColdDepots x = Due.camp("mm;00000");
        x.hear(1, 2, 3, true);
        DUE.due("LAY of cairn 2, nothing at cairn 1", x.cairn(2, 1), 0);
        x.lay(1, 1);
        DUE.due("LAY of cairn 2, 1 at cairn 1 now", x.cairn(2, 1), 1023);
        DUE.due("LAY of cairn 1, whatever is there", x.cairn(1, 1), 1022);
    }

    /** A man with a husky to stage 6 and 7 of food has nothing left at stage 5, with less he dies ahead of it. */
    private static void trials() {
        ColdDepots x = Due.camp("mh;00900");
        DUE.due("TRY of cairn 5, where he needs 2", x.cairn(5, 2), 7);
        DUE.due("TRY of cairn 4, where he does not come", x.cairn(4, 2), 0);
        x.lay(5, 1);
        DUE.due("TRY of cairn 4, where he needs 1", x.cairn(4, 2), 7);
        x.lay(5, 2);
        DUE.due("TRY of cairn 4, where he needs nothing", x.cairn(4, 2), 0);
        x.march(3, 6, 0);
        DUE.due("count(1)", x.count(1), 0);
        DUE.due("TRY as if all lived", x.cairn(5, 2), 7);
        x.hear(3, 6, 7, true);
        DUE.due("LAY of cairn 5 then", x.cairn(5, 1), 1020);
        DUE.due("TRY where none of these is told from another", x.cairn(5, 2), 0);
        x.hear(1, 1, 0, true);
        DUE.due("LAY when a wrong thing is heard", x.cairn(5, 1), 0);
        DUE.due("TRY when a wrong thing is heard", x.cairn(5, 2), ColdDepots.NONE);
    }
}
