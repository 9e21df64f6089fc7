import java.util.List;

/** Boundary cases of promise 8: cairn, with LAY and TRY. */
public final class Promise08CairnEdgeTest {
    private static final Cases CASES = new Cases("8, cairn");
    private static final int NONE = ColdDepots.NONE;

    public static void main(String[] args) {
        numbers();
        whats();
        food();
        amounts();
        amountsOfMany();
        trials();
        CASES.end();
    }

    private static void numbers() {
        CASES.is("cairn 1 is the first", Due.camp("mm;70003").cairn(1, 0), 7);
        CASES.is("cairn 5 is the last", Due.camp("mm;70003").cairn(5, 0), 3);
        for (int cairn : new int[] {0, -1, Integer.MIN_VALUE, 6, Integer.MAX_VALUE}) {
            CASES.refused(cairn + " is UNKNOWN", ColdDepots.UNKNOWN, Standing.ALL, x -> x.cairn(cairn, 0));
            CASES.refused(cairn + ": UNKNOWN is first", ColdDepots.UNKNOWN, Standing.ALL, x -> x.cairn(cairn, 3));
        }
        for (int what : new int[] {0, 1, 2, 3, -1}) {
            for (int cairn : new int[] {1, 5}) {
                CASES.refused(cairn + " without a camp is UNKNOWN, what = " + what, ColdDepots.UNKNOWN,
                    Standing.WITHOUT_CAMP, x -> x.cairn(cairn, what));
            }
        }
    }

    private static void whats() {
        for (int what : new int[] {-1, 3, Integer.MIN_VALUE, Integer.MAX_VALUE}) {
            CASES.refused("what = " + what + " is OUTSIDE", ColdDepots.OUTSIDE, Standing.WITH_CAMP,
                x -> x.cairn(1, what));
        }
        for (int what = 0; what <= 2; what++) {
            int asked = what;
            CASES.tellsOnly("cairn(3, " + what + ")", Standing.ALL, x -> x.cairn(3, asked));
        }
    }

    private static void food() {
        CASES.is("no food", Due.camp("mm;09999").cairn(1, 0), 0);
        CASES.is("the most food", Due.camp("mm;90000").cairn(1, 0), 9);
    }

    private static int amounts(String camp, int cairn, int members, int stage, int food, boolean home) {
        ColdDepots x = Due.camp(camp);
        x.hear(members, stage, food, home);
        return x.cairn(cairn, 1);
    }

    /** Five men with 20 have nothing left at cairn 2 and need 10 from there on. */
    private static void amounts() {
        CASES.is("LAY, nothing is heard", Due.camp("mm;00000").cairn(1, 1), 1023);
        CASES.is("LAY, nothing is heard any more", forgotten(), 1023);
        CASES.is("LAY: 0 alone", amounts("mm;00000", 1, 1, 2, 3, false), 1);
        CASES.is("LAY: all but 0", amounts("mm;00000", 1, 1, 2, 3, true), 1022);
        CASES.is("LAY: 9 alone", amounts("mmmmmm;10000", 2, 31, 3, 20, true), 512);
        CASES.is("LAY: all but 9", amounts("mmmmmm;10000", 2, 31, 3, 20, false), 511);
        CASES.is("LAY: 9 is too little", amounts("mmmmmm;00000", 2, 31, 3, 20, true), 0);
        CASES.is("LAY: even 9 is too little", amounts("mmmmmm;00000", 2, 31, 3, 20, false), 1023);
        CASES.is("LAY of cairn 1, as far as they can pull it", amounts("mm;00000", 1, 1, 3, 4, true), 0);
        CASES.is("LAY where they turn", amounts("mm;00000", 1, 1, 1, 1, true), 0);
        CASES.is("LAY behind where they turn", amounts("mm;00000", 5, 1, 1, 1, false), 1023);
        CASES.is("LAY of cairn 5", amounts("mh;00900", 5, 3, 6, 7, true), 1020);
        CASES.is("LAY: 40 is no more than they pull", amounts("mm;00000", 3, 1, 1, 40, false), 0);
        CASES.is("LAY: some were eaten, some came home", amounts("md;00000", 1, 3, 1, 0, true), 1023);
        CASES.test("LAY: one not known, the others as they are now", due -> {
            ColdDepots x = Due.camp("mm;00000");
            x.hear(1, 2, 3, true);
            due.due("of cairn 2, nothing lies at cairn 1", x.cairn(2, 1), 0);
            x.lay(1, 1);
            due.due("of cairn 2, 1 lies at cairn 1", x.cairn(2, 1), 1023);
            due.due("of cairn 1, whatever lies there", x.cairn(1, 1), 1022);
        });
        CASES.test("LAY: they lived, though they do not now", due -> {
            ColdDepots x = Due.camp("mm;00000");
            x.march(3, 6, 0);
            x.hear(1, 2, 3, true);
            due.due("cairn(1, 1)", x.cairn(1, 1), 1022);
        });
    }

    private static int forgotten() {
        ColdDepots x = Due.camp("mm;00000");
        x.hear(1, 1, 0, true);
        x.forget();
        return x.cairn(1, 1);
    }

    private static int amountsOfSix(int wrongPlace) {
        ColdDepots x = Due.camp("mm;00000");
        for (int place = 1; place <= 6; place++) {
            x.hear(1, 1, 0, place == wrongPlace);
        }
        return x.cairn(1, 1);
    }

    private static void amountsOfMany() {
        CASES.is("LAY: six are heard and so", amountsOfSix(0), 1023);
        CASES.is("LAY: the first of six is not so", amountsOfSix(1), 0);
        CASES.is("LAY: the sixth of six is not so", amountsOfSix(6), 0);
        CASES.test("LAY: two that leave one amount, and a third that leaves none", due -> {
            ColdDepots x = Due.camp("mm;00000");
            x.hear(1, 2, 3, true);
            x.hear(3, 2, 6, false);
            due.due("1 alone", x.cairn(1, 1), 2);
            x.hear(1, 2, 3, false);
            due.due("none", x.cairn(1, 1), 0);
        });
    }

    private static int trial(String camp, int cairn) {
        return Due.camp(camp).cairn(cairn, 2);
    }

    /** A man with a husky to stage 6 and 7 of food has nothing left at stage 5, where he needs 2. */
    private static void trials() {
        CASES.is("TRY: none is told from another", trial("mm;00000", 1), 0);
        CASES.is("TRY: eight come home, two do not; of like ones the least", trial("mh;00900", 5), 7);
        CASES.is("TRY: all come home with some, none of them told apart", trial("mh;00902", 4), 0);
        CASES.is("TRY: much food", trial("pppdpd;39772", 5), 30);
        CASES.test("TRY: LAY is none", due -> {
            ColdDepots x = Due.camp("mh;00900");
            x.hear(1, 1, 0, true);
            for (int cairn = 1; cairn <= 5; cairn++) {
                due.due("cairn(" + cairn + ", 2)", x.cairn(cairn, 2), NONE);
            }
        });
        CASES.test("TRY: LAY is one", due -> {
            ColdDepots x = Due.camp("mh;00000");
            x.hear(1, 2, 3, false);
            due.due("LAY 0 alone", x.cairn(1, 1), 1);
            due.due("TRY", x.cairn(1, 2), 0);
        });
        CASES.test("TRY: LAY is two, not told apart", due -> {
            ColdDepots x = Due.camp("mh;00900");
            x.hear(3, 6, 7, false);
            due.due("LAY 0 and 1", x.cairn(5, 1), 3);
            due.due("TRY", x.cairn(5, 2), 0);
        });
        CASES.test("TRY: all members, as if all lived", due -> {
            ColdDepots x = Due.camp("mh;00900");
            x.march(2, 6, 0);
            due.due("the husky died", x.cairn(5, 2), 7);
            x.march(1, 6, 0);
            due.due("nobody lives", x.cairn(5, 2), 7);
        });
        CASES.test("TRY: LAY is eight, not told apart", due -> {
            ColdDepots x = Due.camp("mh;00900");
            x.hear(3, 6, 7, true);
            due.due("LAY 2 and more", x.cairn(5, 1), 1020);
            due.due("TRY", x.cairn(5, 2), 0);
        });
        List<Standing> six = List.of(Standing.SIX);
        CASES.tellsOnly("TRY of a camp of six", six, x -> x.cairn(5, 2));
    }
}
