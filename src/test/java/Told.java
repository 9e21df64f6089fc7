import java.util.ArrayList;
import java.util.List;
import java.util.function.Supplier;

/**
 * All that the calls tell of an object. What changes it by the telling (what a restore() brings back, how many letters
 * fit yet) is told by further objects that were made the same way; none is used for more than 512 calls.
 */
final class Told {
    private final Supplier<ColdDepots> maker;
    private final List<String> lines = new ArrayList<>();

    private Told(Supplier<ColdDepots> maker) {
        this.maker = maker;
    }

    static List<String> of(Supplier<ColdDepots> maker) {
        Told told = new Told(maker);
        told.camp();
        told.marches();
        told.page();
        told.heard();
        told.image();
        told.teams();
        told.changes();
        return told.lines;
    }

    private void tell(String call, long answer) {
        lines.add(call + " = " + answer);
    }

    private void all(String when, ColdDepots x) {
        for (int what = 0; what <= 10; what++) {
            tell(when + "count(" + what + ")", x.count(what));
        }
        tell(when + "digest()", x.digest());
    }

    private void camp() {
        ColdDepots x = maker.get();
        all("", x);
        tell("fault()", x.fault());
        for (int member = 0; member <= 6; member++) {
            for (int number = 0; number <= 4; number++) {
                tell("member(" + member + ", " + number + ")", x.member(member, number));
                tell("as(" + member + ", " + number + ")", x.as(member, number));
            }
        }
        for (int cairn = 1; cairn <= 5; cairn++) {
            for (int what = 0; what <= 2; what++) {
                tell("cairn(" + cairn + ", " + what + ")", x.cairn(cairn, what));
            }
        }
    }

    private void marches() {
        ColdDepots x = maker.get();
        for (int members : new int[] {1, 2, 3, 4, 8, 16, 32, 61, 63}) {
            tell("far(" + members + ")", x.far(members));
            for (int stage = 1; stage <= 6; stage++) {
                tell("need(" + members + ", " + stage + ")", x.need(members, stage));
                for (int what = 0; what <= 3; what++) {
                    tell("would(" + members + ", " + stage + ", 9, " + what + ")", x.would(members, stage, 9, what));
                }
            }
        }
        for (int what = 0; what <= 2; what++) {
            tell("winters(2, 611, " + what + ")", x.winters(2, 611, what));
        }
    }

    private void page() {
        ColdDepots x = maker.get();
        tell("camp()", x.camp());
        all("behind camp() ", x);
        tell("restore() behind camp()", x.restore());
        x = maker.get();
        for (int more = 1; more <= 16; more++) {
            tell("letter('m') " + more, x.letter('m'));
        }
        tell("blank()", x.blank());
        all("behind blank() ", x);
    }

    private void heard() {
        ColdDepots x = maker.get();
        for (int more = 1; more <= 7; more++) {
            tell("hear() " + more, x.hear(1, 2, 3, true));
        }
        all("behind hear() ", x);
        tell("forget()", x.forget());
        all("behind forget() ", x);
    }

    private void image() {
        ColdDepots x = maker.get();
        tell("restore()", x.restore());
        all("restored ", x);
        x = maker.get();
        tell("image()", x.image());
        x.march(1, 6, 0);
        tell("restore() behind image()", x.restore());
        all("restored from it ", x);
    }

    private void teams() {
        ColdDepots x = maker.get();
        for (int more = 1; more <= 21; more++) {
            tell("team(1) " + more, x.team(1));
        }
    }

    private void changes() {
        ColdDepots x = maker.get();
        for (int cairn = 1; cairn <= 5; cairn++) {
            tell("lay(" + cairn + ", 4)", x.lay(cairn, 4));
        }
        for (int members = 1; members <= 32; members *= 2) {
            tell("march(" + members + ", 2, 4)", x.march(members, 2, 4));
        }
        all("behind marches ", x);
    }
}
