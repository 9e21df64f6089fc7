/** Long runs of calls, by a fixed draw, on the program and on the model: all promises at once. */
public final class AgainstModelTest {
    private static final int RUNS = 400;
    private static final int CALLS = 400;
    private static final int[] EDGES = {Integer.MIN_VALUE, -1, 0, 1, 6, 7, 10, 40, 41, 64, 127, Integer.MAX_VALUE};

    private final Due due = new Due();
    private long seed;
    private ColdDepots program;
    private Model model;

    public static void main(String[] args) {
        AgainstModelTest test = new AgainstModelTest();
        for (int run = 0; run < RUNS; run++) {
            test.run(run);
        }
        test.due.end();
    }

    private void run(int run) {
        seed = run;
        program = new ColdDepots();
        model = new Model();
        if (draw(20) != 0) {
            typeCamp();
            same("run " + run + " camp()", program.camp(), model.camp());
        }
        for (int call = 0; call < CALLS; call++) {
            one("run " + run + " call " + call + " ");
        }
    }

    private int draw(int below) {
        seed = (seed * 6364136223846793005L + 1442695040888963407L);
        return (int) ((seed >>> 33) % below);
    }

    /** Mostly within the bounds, at times beyond them. */
    private int number(int from, int to) {
        return draw(16) == 0 ? EDGES[draw(EDGES.length)] : from + draw(to - from + 1);
    }

    private int members() {
        if (draw(3) == 0) {
            return number(0, 63);
        }
        int living = 0;
        for (int member = 0; member < model.count(0); member++) {
            living |= model.member(member, 4) << member;
        }
        return draw(3) == 0 ? living : living & number(0, 63);
    }

    private void typeCamp() {
        program.blank();
        model.blank();
        StringBuilder text = new StringBuilder();
        int size = 2 + draw(5);
        for (int member = 0; member < size; member++) {
            text.append("mpdbhmph".charAt(draw(8)));
        }
        text.append(';');
        boolean rich = draw(2) == 0;
        for (int cairn = 0; cairn < 5; cairn++) {
            text.append((char) ('0' + (rich ? 5 + draw(5) : draw(10))));
        }
        if (draw(8) == 0) {
            text.setCharAt(draw(text.length()), "m;0x:/9h".charAt(draw(8)));
        }
        for (int place = 0; place < text.length(); place++) {
            same("letter", program.letter(text.charAt(place)), model.letter(text.charAt(place)));
        }
    }

    private void same(String call, long got, long want) {
        due.due(call, got, want);
    }

    private void one(String at) {
        int a = members();
        int stage = number(1, 6);
        int food = number(0, 40);
        int cairn = number(1, 5);
        int what = number(0, 4);
        int amount = number(0, 9);
        int first = draw(8) == 0 ? Integer.MAX_VALUE - draw(2) : number(0, 1000000000);
        switch (draw(24)) {
            case 0: same(at + "letter(" + food + ")", program.letter(food), model.letter(food)); break;
            case 1: same(at + "blank()", program.blank(), model.blank()); break;
            case 2: same(at + "fault()", program.fault(), model.fault()); break;
            case 3: same(at + "camp()", program.camp(), model.camp()); break;
            case 4: same(at + "member", program.member(cairn, what), model.member(cairn, what)); break;
            case 5: same(at + "as", program.as(cairn, what), model.as(cairn, what)); break;
            case 6: same(at + "cairn 1", program.cairn(cairn, 1), model.cairn(cairn, 1)); break;
            case 7: same(at + "cairn", program.cairn(cairn, what), model.cairn(cairn, what)); break;
            case 8: same(at + "lay", program.lay(cairn, amount), model.lay(cairn, amount)); break;
            case 9: same(at + "march", program.march(a, stage, food), model.march(a, stage, food)); break;
            case 10: same(at + "need", program.need(a, stage), model.need(a, stage)); break;
            case 11: same(at + "far", program.far(a), model.far(a)); break;
            case 12: if (draw(4) == 0) same(at + "team", program.team(stage), model.team(stage)); break;
            case 13: hear(at); break;
            case 14: if (draw(4) == 0) same(at + "forget()", program.forget(), model.forget()); break;
            case 15: same(at + "image()", program.image(), model.image()); break;
            case 16: same(at + "restore()", program.restore(), model.restore()); break;
            case 17: same(at + "count", program.count(stage + what), model.count(stage + what)); break;
            case 18: same(at + "winters", program.winters(stage, first, what), model.winters(stage, first, what)); break;
            case 19: same(at + "digest()", program.digest(), model.digest()); break;
            case 20: if (draw(10) == 0) typeCamp(); break;
            default: would(at, a, stage, food); break;
        }
    }

    private void would(String at, int members, int stage, int food) {
        for (int what = -1; what <= 4; what++) {
            String call = at + "would(" + members + ", " + stage + ", " + food + ", " + what + ")";
            same(call, program.would(members, stage, food, what), model.would(members, stage, food, what));
        }
    }

    /** Mostly what is so, that some of what can lie at a cairn is left. */
    private void hear(String at) {
        int members = number(1, 63);
        int stage = number(1, 6);
        int food = number(0, 24);
        boolean isSo = model.would(members, stage, food, 0) > 0;
        boolean home = draw(8) == 0 ? !isSo : isSo;
        same(at + "hear", program.hear(members, stage, food, home), model.hear(members, stage, food, home));
        for (int cairn = 1; cairn <= 5; cairn++) {
            same(at + "LAY " + cairn, program.cairn(cairn, 1), model.cairn(cairn, 1));
            same(at + "TRY " + cairn, program.cairn(cairn, 2), model.cairn(cairn, 2));
        }
    }
}
