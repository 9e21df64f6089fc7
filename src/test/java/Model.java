import java.util.ArrayList;
import java.util.List;

/** The document told a second time, as slowly and plainly as can be, to hold the program against. */
final class Model {
    private static final int NONE = -1, UNKNOWN = -101, OUTSIDE = -102, STATE = -103, FULL = -104;

    static final class Member {
        final int number;
        final char letter;

        Member(int number, char letter) {
            this.number = number;
            this.letter = letter;
        }

        int kind() { return "mpdbh".indexOf(letter); }

        int pulls() { return letter == 'm' ? 4 : letter == 'p' ? 8 : letter == 'h' ? 3 : 2; }

        int eats() { return letter == 'p' ? 2 : 1; }

        int feeds() { return letter == 'p' ? 6 : letter == 'd' ? 2 : letter == 'h' ? 3 : 0; }

        boolean isBeast() { return letter == 'p' || letter == 'd' || letter == 'h'; }
    }

    /** How a march ends. */
    static final class End {
        int bits;
        int food;
        int diedOn;
        final int[] cairns;

        End(int[] cairns) { this.cairns = cairns; }
    }

    static final class Heard {
        final int members;
        final int stage;
        final int food;
        final boolean home;

        Heard(int members, int stage, int food, boolean home) {
            this.members = members;
            this.stage = stage;
            this.food = food;
            this.home = home;
        }
    }

    static final class Kept {
        int alive;
        int[] cairns;
        int marches;
        int home;
        List<Heard> heard;
    }

    private String page = "";
    private final List<Member> members = new ArrayList<>();
    private int alive;
    private int[] cairns = new int[6];
    private int marches;
    private int home;
    private List<Heard> heard = new ArrayList<>();
    private Kept image;
    private int camps;
    private int teams;

    int letter(int code) {
        if (code < 1 || code > 126) return OUTSIDE;
        if (page.length() == 15) return FULL;
        page += (char) code;
        return page.length();
    }

    int blank() {
        int had = page.length();
        page = "";
        return had;
    }

    int fault() {
        for (int end = 1; end <= page.length(); end++) {
            String start = page.substring(0, end);
            if (!start.matches("[mpdbh]{0,6}|[mpdbh]{2,6};[0-9]{0,5}")) return end - 1;
        }
        return page.length();
    }

    int camp() {
        if (!page.matches("[mpdbh]{2,6};[0-9]{5}")) return STATE;
        String[] parts = page.split(";");
        members.clear();
        for (char letter : parts[0].toCharArray()) members.add(new Member(members.size(), letter));
        for (int cairn = 1; cairn <= 5; cairn++) cairns[cairn] = Integer.parseInt(parts[1].substring(cairn - 1, cairn));
        alive = everybody();
        marches = 0;
        home = 0;
        heard.clear();
        image = null;
        camps++;
        page = "";
        return members.size();
    }

    int member(int member, int what) {
        if (member < 0 || member >= members.size()) return UNKNOWN;
        Member one = members.get(member);
        if (what == 0) return one.kind();
        if (what == 1) return one.pulls();
        if (what == 2) return one.eats();
        if (what == 3) return one.feeds();
        if (what == 4) return some(alive).contains(one) ? 1 : 0;
        return OUTSIDE;
    }

    int as(int member, int kind) {
        if (member < 0 || member >= members.size()) return UNKNOWN;
        if (kind < 0 || kind > 4) return OUTSIDE;
        char letter = members.get(member).letter;
        String all = kind == 0 ? "mpdbh" : kind == 1 ? "p" : kind == 2 ? "dh" : kind == 3 ? "b" : "h";
        return all.indexOf(letter) >= 0 ? member : NONE;
    }

    int cairn(int cairn, int what) {
        if (members.isEmpty() || cairn < 1 || cairn > 5) return UNKNOWN;
        if (what == 0) return cairns[cairn];
        if (what == 1) return bitsOf(amounts(cairn));
        if (what == 2) return trial(cairn);
        return OUTSIDE;
    }

    int lay(int cairn, int food) {
        if (members.isEmpty() || cairn < 1 || cairn > 5) return UNKNOWN;
        if (food < 0 || food > 9) return OUTSIDE;
        int had = cairns[cairn];
        cairns[cairn] = food;
        return had;
    }

    int march(int members, int stage, int food) {
        if (isWrong(members, stage, food)) return OUTSIDE;
        if ((members & alive) != members) return STATE;
        End end = walk(members, stage, food, cairns);
        alive = alive - members + end.bits;
        cairns = end.cairns;
        marches++;
        if (end.bits > 0) home++;
        return end.bits;
    }

    int would(int members, int stage, int food, int what) {
        if (isWrong(members, stage, food) || what < 0 || what > 3) return OUTSIDE;
        if ((members & alive) != members) return STATE;
        End end = walk(members, stage, food, cairns);
        return what == 0 ? end.bits : what == 1 ? end.food : what == 2 ? total(end.cairns) : end.diedOn;
    }

    int need(int members, int stage) {
        if (isWrong(members, stage, 0)) return OUTSIDE;
        if ((members & alive) != members) return STATE;
        return least(members, stage, cairns);
    }

    int far(int members) {
        if (isWrong(members, 1, 0)) return OUTSIDE;
        if ((members & alive) != members) return STATE;
        return farthest(members, cairns);
    }

    int team(int stage) {
        if (stage < 1 || stage > 6) return OUTSIDE;
        if (members.isEmpty() || teams == 20) return STATE;
        teams++;
        for (int size = 1; size <= 6; size++) {
            for (int bits = 1; bits <= 63; bits++) {
                boolean live = (bits & alive) == bits;
                if (live && some(bits).size() == size && least(bits, stage, cairns) != NONE) return bits;
            }
        }
        return NONE;
    }

    int hear(int members, int stage, int food, boolean home) {
        if (isWrong(members, stage, food)) return OUTSIDE;
        if (heard.size() == 6) return FULL;
        heard.add(new Heard(members, stage, food, home));
        return heard.size();
    }

    int forget() {
        int had = heard.size();
        heard.clear();
        return had;
    }

    int winters(int many, int seed, int what) {
        if (many < 1 || many > 20 || seed < 0 || what < 0 || what > 2) return OUTSIDE;
        if (members.isEmpty()) return STATE;
        int[] then = cairns.clone();
        long drawn = seed;
        for (int draw = 0; draw < 5 * many; draw++) {
            drawn = (1103515245L * drawn + 12345L) % 2147483648L;
            int cairn = draw % 5 + 1;
            then[cairn] -= Math.min(then[cairn], (int) (drawn / 65536 % 3));
        }
        return what == 0 ? total(then) : what == 1 ? farthest(alive, then) : (int) drawn;
    }

    int image() {
        if (members.isEmpty()) return STATE;
        image = new Kept();
        image.alive = alive;
        image.cairns = cairns.clone();
        image.marches = marches;
        image.home = home;
        image.heard = new ArrayList<>(heard);
        return marches;
    }

    int restore() {
        if (image == null) return STATE;
        alive = image.alive;
        cairns = image.cairns.clone();
        marches = image.marches;
        home = image.home;
        heard = new ArrayList<>(image.heard);
        return marches;
    }

    int count(int what) {
        int[] counts = {members.size(), some(alive).size(), total(cairns), marches, home, pull(some(alive)),
            eat(some(alive)), heard.size(), page.length(), camps, teams};
        return what < 0 || what > 10 ? OUTSIDE : members.isEmpty() && what == 2 ? 0 : counts[what];
    }

    long digest() {
        List<Integer> told = new ArrayList<>();
        for (int member = 0; member < members.size(); member++) {
            for (int what = 0; what <= 4; what++) told.add(member(member, what));
        }
        if (!members.isEmpty()) {
            for (int cairn = 1; cairn <= 5; cairn++) {
                told.add(cairn(cairn, 0));
                told.add(cairn(cairn, 1));
            }
            told.add(cairn(3, 2));
        }
        if (alive != 0) {
            told.add(far(alive));
            told.add(need(alive, 1));
            told.add(need(alive, 4));
            for (int what = 0; what <= 3; what++) told.add(would(alive, 5, 12, what));
        }
        for (char letter : page.toCharArray()) told.add((int) letter);
        for (int what = 0; what <= 10; what++) told.add(count(what));
        long h = 1051;
        for (int number : told) h = 31 * h + number;
        return h;
    }

    private boolean isWrong(int members, int stage, int food) {
        return members < 1 || members > everybody() || stage < 1 || stage > 6 || food < 0 || food > 40;
    }

    private int everybody() {
        int bits = 0;
        for (Member one : members) bits += 1 << one.number;
        return bits;
    }

    private List<Member> some(int bits) {
        List<Member> found = new ArrayList<>();
        for (Member one : members) {
            if ((bits & 1 << one.number) != 0) found.add(one);
        }
        return found;
    }

    private static int pull(List<Member> some) {
        int sum = 0;
        for (Member one : some) sum += one.pulls();
        return sum;
    }

    private static int eat(List<Member> some) {
        int sum = 0;
        for (Member one : some) sum += one.eats();
        return sum;
    }

    private static int total(int[] cairns) {
        return cairns[1] + cairns[2] + cairns[3] + cairns[4] + cairns[5];
    }

    private static int eaten(List<Member> some, int place, int food) {
        Member one = some.remove(place);
        return Math.min(food + one.feeds(), pull(some));
    }

    private static int lastBeast(List<Member> some, boolean poniesAlone) {
        for (int place = some.size() - 1; place >= 0; place--) {
            if (poniesAlone ? some.get(place).letter == 'p' : some.get(place).isBeast()) return place;
        }
        return -1;
    }

    private End walk(int bits, int stage, int startFood, int[] before) {
        End end = new End(before.clone());
        List<Member> some = some(bits);
        int food = Math.min(startFood, pull(some));
        int at = 0;
        int way = 1;
        int steps = 0;
        do {
            steps++;
            if (way == 1 && at >= 3) {
                while (lastBeast(some, true) >= 0) food = eaten(some, lastBeast(some, true), food);
            }
            while (food < eat(some) && lastBeast(some, false) >= 0) food = eaten(some, lastBeast(some, false), food);
            if (some.isEmpty() || food < eat(some)) {
                end.diedOn = steps;
                return end;
            }
            food -= eat(some);
            at += way;
            if (way == -1 && at > 0) {
                while (end.cairns[at] > 0 && food < pull(some)) {
                    end.cairns[at]--;
                    food++;
                }
            }
            if (at == stage) way = -1;
        } while (at > 0);
        for (Member one : some) end.bits += 1 << one.number;
        end.food = food;
        return end;
    }

    private int least(int bits, int stage, int[] lying) {
        for (int food = 0; food <= 40; food++) {
            if (walk(bits, stage, food, lying).bits != 0) return food;
        }
        return NONE;
    }

    private int farthest(int bits, int[] lying) {
        int far = 0;
        for (int stage = 1; bits != 0 && stage <= 6; stage++) {
            if (least(bits, stage, lying) != NONE) far = stage;
        }
        return far;
    }

    private List<Integer> amounts(int cairn) {
        List<Integer> found = new ArrayList<>();
        for (int amount = 0; amount <= 9; amount++) {
            boolean all = true;
            for (Heard one : heard) {
                all &= with(cairn, amount, one.members, one.stage, one.food) == one.home;
            }
            if (all) found.add(amount);
        }
        return found;
    }

    private boolean with(int cairn, int amount, int bits, int stage, int food) {
        int[] lying = cairns.clone();
        lying[cairn] = amount;
        return walk(bits, stage, food, lying).bits != 0;
    }

    private static int bitsOf(List<Integer> numbers) {
        int bits = 0;
        for (int number : numbers) bits |= 1 << number;
        return bits;
    }

    private int trial(int cairn) {
        List<Integer> amounts = amounts(cairn);
        int best = NONE;
        int fewest = amounts.size();
        for (int food = 40; food >= 0 && !amounts.isEmpty(); food--) {
            int come = 0;
            int die = 0;
            for (int amount : amounts) {
                if (with(cairn, amount, everybody(), 6, food)) come++;
                else die++;
            }
            if (Math.max(come, die) <= fewest) {
                fewest = Math.max(come, die);
                best = food;
            }
        }
        return best;
    }
}
