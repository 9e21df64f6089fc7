import java.util.List;

/** Boundary cases of promise 15: hear. */
public final class Promise15HearEdgeTest {
    private static final Cases CASES = new Cases("15, hear");
    private static final List<Standing> FULL = List.of(Standing.FULL_UP);

    public static void main(String[] args) {
        members();
        stagesAndFoods();
        six();
        theDead();
        CASES.end();
    }

    private static void members() {
        CASES.is("members 1, the least", Due.camp("mm;00000").hear(1, 1, 4, true), 1);
        CASES.is("members 3, all of two", Due.camp("mm;00000").hear(3, 1, 4, true), 1);
        CASES.is("members 63, all of six", Due.camp("mmmmmm;00000").hear(63, 1, 4, true), 1);
        for (int some : new int[] {0, -1, Integer.MIN_VALUE, 64, 65, Integer.MIN_VALUE + 1, Integer.MAX_VALUE}) {
            CASES.refused("members " + some + " are OUTSIDE", ColdDepots.OUTSIDE, Standing.ALL,
                x -> x.hear(some, 1, 9, true));
        }
        for (int some : new int[] {4, 5, 63}) {
            CASES.refused("members " + some + " of two are OUTSIDE", ColdDepots.OUTSIDE,
                List.of(Standing.TWO, Standing.NOBODY, Standing.SECOND), x -> x.hear(some, 1, 9, false));
        }
        CASES.refused("members 1 without a camp are OUTSIDE", ColdDepots.OUTSIDE, Standing.WITHOUT_CAMP,
            x -> x.hear(1, 1, 9, true));
    }

    private static void stagesAndFoods() {
        CASES.is("stage 1 is the first", Due.camp("mm;00000").hear(1, 1, 4, true), 1);
        CASES.is("stage 6 is the last", Due.camp("mm;00000").hear(1, 6, 4, true), 1);
        for (int stage : new int[] {0, -1, Integer.MIN_VALUE, 7, Integer.MAX_VALUE}) {
            CASES.refused("stage " + stage + " is OUTSIDE", ColdDepots.OUTSIDE, Standing.ALL,
                x -> x.hear(1, stage, 4, true));
        }
        CASES.is("food 0 is the least", Due.camp("mm;00000").hear(1, 1, 0, true), 1);
        CASES.is("food 40 is the most", Due.camp("mm;00000").hear(1, 1, 40, true), 1);
        for (int food : new int[] {-1, Integer.MIN_VALUE, 41, Integer.MAX_VALUE}) {
            CASES.refused("food " + food + " is OUTSIDE", ColdDepots.OUTSIDE, Standing.ALL,
                x -> x.hear(1, 1, food, true));
        }
        CASES.test("stage 6 is weighed as it is", due -> {
            ColdDepots x = Due.camp("mh;00900");
            x.hear(3, 6, 7, true);
            due.due("cairn(5, 1)", x.cairn(5, 1), 1020);
        });
        CASES.test("food 0 is weighed as it is", due -> {
            ColdDepots x = Due.camp("md;00000");
            x.hear(3, 1, 0, true);
            due.due("the dog is eaten", x.cairn(1, 1), 1023);
            x.hear(1, 1, 0, true);
            due.due("a man alone", x.cairn(1, 1), 0);
        });
        CASES.test("food 40 is weighed as what they pull", due -> {
            ColdDepots x = Due.camp("mm;00000");
            x.hear(1, 2, 40, true);
            due.due("to stage 2", x.cairn(3, 1), 1023);
            x.hear(1, 3, 40, true);
            due.due("to stage 3", x.cairn(3, 1), 0);
        });
    }

    private static void six() {
        CASES.test("the sixth is the last", due -> {
            ColdDepots x = Due.camp("mm;00000");
            for (int many = 1; many <= 6; many++) {
                due.due("hear() " + many, x.hear(1, 2, 3, true), many);
                due.due("count(7)", x.count(7), many);
            }
            due.due("the seventh", x.hear(1, 2, 3, true), ColdDepots.FULL);
            due.due("count(7) behind it", x.count(7), 6);
        });
        CASES.refused("the seventh, that it came home", ColdDepots.FULL, FULL, x -> x.hear(1, 2, 3, true));
        CASES.refused("the seventh, that is not so", ColdDepots.FULL, FULL, x -> x.hear(1, 2, 3, false));
        CASES.refused("the seventh, of one that died", ColdDepots.FULL, FULL, x -> x.hear(32, 2, 3, false));
        CASES.refused("OUTSIDE is first, by the members", ColdDepots.OUTSIDE, FULL, x -> x.hear(64, 1, 3, true));
        CASES.refused("OUTSIDE is first, by the stage", ColdDepots.OUTSIDE, FULL, x -> x.hear(1, 7, 3, true));
        CASES.refused("OUTSIDE is first, by the food", ColdDepots.OUTSIDE, FULL, x -> x.hear(1, 1, 41, true));
        CASES.test("behind forget() six fit again", due -> {
            ColdDepots x = Standing.FULL_UP.make();
            x.forget();
            for (int many = 1; many <= 6; many++) {
                due.due("hear() " + many, x.hear(1, 2, 3, true), many);
            }
            due.due("the seventh", x.hear(1, 2, 3, true), ColdDepots.FULL);
        });
        CASES.is("the same heard twice is two", twice(), 2);
    }

    private static int twice() {
        ColdDepots x = Due.camp("mm;00000");
        x.hear(1, 2, 3, true);
        return x.hear(1, 2, 3, true);
    }

    private static void theDead() {
        CASES.is("of one that died", Standing.MIDWAY.make().hear(2, 1, 9, true), 3);
        CASES.is("where nobody lives", Standing.NOBODY.make().hear(3, 1, 9, true), 1);
    }
}
