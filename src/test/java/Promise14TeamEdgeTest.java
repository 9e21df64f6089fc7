import java.util.List;
import java.util.function.Consumer;

/** Boundary cases of promise 14: team. */
public final class Promise14TeamEdgeTest {
    private static final Cases CASES = new Cases("14, team");

    public static void main(String[] args) {
        stages();
        refused();
        twentyTimes();
        teams();
        whatItChanges();
        CASES.end();
    }

    private static int team(String camp, int stage) {
        return Due.camp(camp).team(stage);
    }

    private static void stages() {
        CASES.is("stage 1 is the first", team("mh;00902", 1), 1);
        CASES.is("stage 6 is the last", team("mh;00902", 6), 3);
        for (int stage : new int[] {0, -1, Integer.MIN_VALUE, 7, Integer.MAX_VALUE}) {
            CASES.refused("stage " + stage + " is OUTSIDE", ColdDepots.OUTSIDE, Standing.ALL, x -> x.team(stage));
        }
    }

    private static void refused() {
        for (int stage : new int[] {1, 6}) {
            CASES.refused("without a camp, stage " + stage, ColdDepots.STATE, Standing.WITHOUT_CAMP,
                x -> x.team(stage));
            CASES.refused("done 20 times, stage " + stage, ColdDepots.STATE, List.of(Standing.FULL_UP),
                x -> x.team(stage));
        }
        CASES.refused("OUTSIDE is first, without a camp", ColdDepots.OUTSIDE, Standing.WITHOUT_CAMP, x -> x.team(7));
        CASES.refused("OUTSIDE is first, done 20 times", ColdDepots.OUTSIDE, List.of(Standing.FULL_UP),
            x -> x.team(0));
    }

    /** Nineteen times team(1) of two men, something between, then the twentieth time and the next. */
    private static void lastTwo(String name, Consumer<ColdDepots> between) {
        CASES.test(name, due -> {
            ColdDepots x = Due.camp("mm;00000");
            x.image();
            for (int done = 1; done <= 19; done++) {
                due.due("time " + done, x.team(1), 1);
            }
            between.accept(x);
            due.due("count(10)", x.count(10), 19);
            due.due("the 20th time", x.team(1), 1);
            due.due("count(10) then", x.count(10), 20);
            due.due("the 21st time", x.team(1), ColdDepots.STATE);
            due.due("count(10) behind it", x.count(10), 20);
        });
    }

    private static void twentyTimes() {
        lastTwo("the 20th time is the last", x -> { });
        lastTwo("refusals do not count", x -> {
            for (int more = 1; more <= 30; more++) {
                x.team(0);
                x.team(7);
            }
        });
        lastTwo("restore() gives none back", ColdDepots::restore);
        lastTwo("another camp gives none back", x -> {
            Due.type(x, "mm;00000");
            x.camp();
        });
        CASES.test("refusals without a camp do not count", due -> {
            ColdDepots x = new ColdDepots();
            for (int more = 1; more <= 25; more++) {
                due.due("team(1) without a camp", x.team(1), ColdDepots.STATE);
            }
            Due.type(x, "mm;00000");
            x.camp();
            due.due("count(10)", x.count(10), 0);
            due.due("team(1)", x.team(1), 1);
        });
        CASES.test("none counts, too", due -> {
            ColdDepots x = Due.camp("mm;00000");
            for (int done = 1; done <= 20; done++) {
                due.due("time " + done, x.team(3), ColdDepots.NONE);
            }
            due.due("the 21st time", x.team(1), ColdDepots.STATE);
        });
        CASES.test("what was done ahead of another camp and of restore() counts on", due -> {
            ColdDepots x = Due.camp("mm;00000");
            for (int done = 1; done <= 10; done++) {
                x.team(1);
            }
            Due.type(x, "mm;00000");
            x.camp();
            x.image();
            for (int done = 11; done <= 20; done++) {
                due.due("time " + done, x.team(1), 1);
                x.restore();
            }
            due.due("the 21st time", x.team(1), ColdDepots.STATE);
        });
    }

    private static void teams() {
        CASES.is("of like ones the least, one", team("mmmmmm;00000", 2), 1);
        CASES.is("of like ones the least, two", team("hbmh;00062", 6), 5);
        CASES.is("one is fewer than two with lesser numbers", team("ddp;00000", 2), 4);
        CASES.is("member 5 alone", team("bbbbbm;00000", 2), 32);
        CASES.is("all six", team("mddpdp;00000", 5), 63);
        CASES.is("none of six", team("mmmmmm;99999", 5), ColdDepots.NONE);
        CASES.test("the dead are not asked", due -> {
            ColdDepots x = Due.camp("mmm;00000");
            x.march(1, 6, 0);
            due.due("team(2)", x.team(2), 2);
            x.march(2, 6, 0);
            due.due("team(2) again", x.team(2), 4);
            x.march(4, 6, 0);
            due.due("nobody lives: none", x.team(1), ColdDepots.NONE);
        });
    }

    private static void whatItChanges() {
        CASES.test("but for count(10) it changes nothing", due -> {
            ColdDepots x = Standing.MIDWAY.make();
            int[] before = new int[11];
            for (int what = 0; what <= 10; what++) {
                before[what] = x.count(what);
            }
            x.team(6);
            for (int what = 0; what <= 9; what++) {
                due.due("count(" + what + ")", x.count(what), before[what]);
            }
            due.due("count(10)", x.count(10), before[10] + 1);
            due.due("LAY", x.cairn(1, 1), Standing.MIDWAY.make().cairn(1, 1));
        });
    }
}
