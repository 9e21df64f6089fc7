/** A polar party, the food that lies at its cairns, and what its marches come to. */
public final class ColdDepots {
    public static final int NONE = -1, UNKNOWN = -101, OUTSIDE = -102, STATE = -103, FULL = -104;

    private static final int MOST_LETTERS = 15;
    private static final int LAST_CODE = 126;
    private static final int FEWEST_MEMBERS = 2;
    private static final int MOST_MEMBERS = 6;
    private static final int CAIRNS = 5;
    private static final int LAST_STAGE = 6;
    private static final int SINKING_STAGE = 3;
    private static final int MOST_FOOD = 40;
    private static final int MOST_AT_CAIRN = 9;
    private static final int MOST_HEARD = 6;
    private static final int MOST_TEAMS = 20;
    private static final int MOST_WINTERS = 20;
    private static final int WINTER_DRAW = 3;

    private static final int PONY = 1;
    private static final int DOG = 2;
    private static final int BOY = 3;
    private static final int HUSKY = 4;
    private static final int KINDS = 5;
    private static final int[] PULLS = {4, 8, 2, 2, 3};
    private static final int[] EATS = {1, 2, 1, 1, 1};
    private static final int[] FEEDS = {0, 6, 2, 0, 3};

    private final Page page = new Page();
    private final Party party = new Party();
    private final Standing now = new Standing();
    private final Standing kept = new Standing();
    private final int[] wintered = new int[CAIRNS];
    private boolean imageKept;
    private int campsRead;
    private int teamsDone;

    public ColdDepots() {
    }

    // ---- the camp

    public int letter(int code) {
        if (code < 1 || code > LAST_CODE) {
            return OUTSIDE;
        }
        return page.add(code) ? page.length : FULL;
    }

    public int blank() {
        int had = page.length;
        page.length = 0;
        return had;
    }

    public int fault() {
        return page.firstWrong();
    }

    public int camp() {
        if (!page.isCamp()) {
            return STATE;
        }
        party.size = page.length - CAIRNS - 1;
        for (int member = 0; member < party.size; member++) {
            put(party.kinds, member, kindOf(page.codeAt(member)));
        }
        now.begin(party.all());
        for (int place = 0; place < CAIRNS; place++) {
            put(now.cairns, place, page.codeAt(party.size + 1 + place) - '0');
        }
        imageKept = false;
        campsRead++;
        page.length = 0;
        return party.size;
    }

    public int member(int member, int what) {
        if (member < 0 || member >= party.size) {
            return UNKNOWN;
        }
        int kind = at(party.kinds, member);
        switch (what) {
            case 0: return kind;
            case 1: return at(PULLS, kind);
            case 2: return at(EATS, kind);
            case 3: return at(FEEDS, kind);
            case 4: return (now.alive >> member) & 1;
            default: return OUTSIDE;
        }
    }

    public int as(int member, int kind) {
        if (member < 0 || member >= party.size) {
            return UNKNOWN;
        }
        if (kind < 0 || kind >= KINDS) {
            return OUTSIDE;
        }
        return isOf(at(party.kinds, member), kind) ? member : NONE;
    }

    public int cairn(int cairn, int what) {
        if (isNoCairn(cairn)) {
            return UNKNOWN;
        }
        switch (what) {
            case 0: return at(now.cairns, cairn - 1);
            case 1: return amountsAt(cairn);
            case 2: return bestTrial(cairn, amountsAt(cairn));
            default: return OUTSIDE;
        }
    }

    public int lay(int cairn, int food) {
        if (isNoCairn(cairn)) {
            return UNKNOWN;
        }
        if (food < 0 || food > MOST_AT_CAIRN) {
            return OUTSIDE;
        }
        int had = at(now.cairns, cairn - 1);
        put(now.cairns, cairn - 1, food);
        return had;
    }

    // ---- marches

    public int march(int members, int stage, int food) {
        if (isNoMarch(members, stage, food)) {
            return OUTSIDE;
        }
        if (anyIsDead(members)) {
            return STATE;
        }
        party.setCairns(now.cairns);
        party.go(members, stage, food);
        now.alive = (now.alive & ~members) | party.alive;
        copy(party.cairns, now.cairns);
        now.marches++;
        if (party.alive != 0) {
            now.comingsHome++;
        }
        return party.alive;
    }

    public int would(int members, int stage, int food, int what) {
        if (isNoMarch(members, stage, food) || what < 0 || what > 3) {
            return OUTSIDE;
        }
        if (anyIsDead(members)) {
            return STATE;
        }
        party.setCairns(now.cairns);
        party.go(members, stage, food);
        switch (what) {
            case 0: return party.alive;
            case 1: return party.food;
            case 2: return sum(party.cairns);
            default: return party.diedOn;
        }
    }

    // ---- what would be best

    public int need(int members, int stage) {
        if (isNobody(members) || isNoStage(stage)) {
            return OUTSIDE;
        }
        return anyIsDead(members) ? STATE : leastFood(members, stage, now.cairns);
    }

    public int far(int members) {
        if (isNobody(members)) {
            return OUTSIDE;
        }
        return anyIsDead(members) ? STATE : farthest(members, now.cairns);
    }

    public int team(int stage) {
        if (isNoStage(stage)) {
            return OUTSIDE;
        }
        if (party.size == 0 || teamsDone >= MOST_TEAMS) {
            return STATE;
        }
        teamsDone++;
        return fewest(stage);
    }

    // ---- what is heard

    public int hear(int members, int stage, int food, boolean home) {
        if (isNoMarch(members, stage, food)) {
            return OUTSIDE;
        }
        if (now.heard >= MOST_HEARD) {
            return FULL;
        }
        now.note(members, stage, food, home);
        return now.heard;
    }

    public int forget() {
        int had = now.heard;
        now.heard = 0;
        return had;
    }

    public int winters(int many, int seed, int what) {
        if (many < 1 || many > MOST_WINTERS || seed < 0 || what < 0 || what > 2) {
            return OUTSIDE;
        }
        if (party.size == 0) {
            return STATE;
        }
        int seedThen = letCreep(many, seed);
        if (what == 2) {
            return seedThen;
        }
        return what == 0 ? sum(wintered) : farthest(now.alive, wintered);
    }

    // ---- what is told of all

    public int image() {
        if (party.size == 0) {
            return STATE;
        }
        kept.takeFrom(now);
        imageKept = true;
        return now.marches;
    }

    public int restore() {
        if (!imageKept) {
            return STATE;
        }
        now.takeFrom(kept);
        return now.marches;
    }

    public int count(int what) {
        switch (what) {
            case 0: return party.size;
            case 1: return Integer.bitCount(now.alive);
            case 2: return sum(now.cairns);
            case 3: return now.marches;
            case 4: return now.comingsHome;
            case 5: return party.together(now.alive, PULLS);
            case 6: return party.together(now.alive, EATS);
            case 7: return now.heard;
            case 8: return page.length;
            case 9: return campsRead;
            case 10: return teamsDone;
            default: return OUTSIDE;
        }
    }

    public long digest() {
        long h = 1051;
        for (int member = 0; member < party.size; member++) {
            for (int what = 0; what <= 4; what++) {
                h = 31 * h + member(member, what);
            }
        }
        if (party.size > 0) {
            for (int cairn = 1; cairn <= CAIRNS; cairn++) {
                h = 31 * h + at(now.cairns, cairn - 1);
                h = 31 * h + amountsAt(cairn);
            }
            h = 31 * h + bestTrial(3, amountsAt(3));
        }
        if (now.alive != 0) {
            h = 31 * h + farthest(now.alive, now.cairns);
            h = 31 * h + leastFood(now.alive, 1, now.cairns);
            h = 31 * h + leastFood(now.alive, 4, now.cairns);
            for (int what = 0; what <= 3; what++) {
                h = 31 * h + would(now.alive, 5, 12, what);
            }
        }
        for (int place = 0; place < page.length; place++) {
            h = 31 * h + page.codeAt(place);
        }
        for (int what = 0; what <= 10; what++) {
            h = 31 * h + count(what);
        }
        return h;
    }

    // ---- what is asked of numbers

    private boolean isNoCairn(int cairn) {
        return cairn < 1 || cairn > CAIRNS || party.size == 0;
    }

    private boolean isNobody(int some) {
        return some < 1 || some > party.all();
    }

    private boolean isNoMarch(int some, int stage, int food) {
        return isNobody(some) || isNoStage(stage) || food < 0 || food > MOST_FOOD;
    }

    private boolean anyIsDead(int some) {
        return (some & ~now.alive) != 0;
    }

    private static boolean isNoStage(int stage) {
        return stage < 1 || stage > LAST_STAGE;
    }

    // ---- what is searched for

    /** What they can't pull stays behind, so that more than they pull comes to the same. */
    private int mostFoodOf(int some) {
        return Math.min(MOST_FOOD, party.together(some, PULLS));
    }

    private int leastFood(int some, int stage, int[] lying) {
        int most = mostFoodOf(some);
        for (int food = 0; food <= most; food++) {
            party.setCairns(lying);
            if (party.go(some, stage, food)) {
                return food;
            }
        }
        return NONE;
    }

    private int farthest(int some, int[] lying) {
        for (int stage = LAST_STAGE; stage >= 1; stage--) {
            if (some != 0 && leastFood(some, stage, lying) != NONE) {
                return stage;
            }
        }
        return 0;
    }

    private int fewest(int stage) {
        int best = NONE;
        int size = MOST_MEMBERS + 1;
        for (int some = 1; some <= party.all(); some++) {
            boolean fewer = !anyIsDead(some) && Integer.bitCount(some) < size;
            if (fewer && leastFood(some, stage, now.cairns) != NONE) {
                best = some;
                size = Integer.bitCount(some);
            }
        }
        return best;
    }

    /** LAY of a cairn: a bit for each amount there with which all that is heard is so. */
    private int amountsAt(int cairn) {
        int bits = 0;
        for (int amount = 0; amount <= MOST_AT_CAIRN; amount++) {
            if (isAllSo(cairn, amount)) {
                bits |= 1 << amount;
            }
        }
        return bits;
    }

    private boolean isAllSo(int cairn, int amount) {
        for (int place = 0; place < now.heard; place++) {
            party.setCairns(now.cairns);
            put(party.cairns, cairn - 1, amount);
            int stage = at(now.heardStages, place);
            boolean comesHome = party.go(at(now.heardMembers, place), stage, at(now.heardFoods, place));
            if (comesHome != (at(now.heardHomes, place) == 1)) {
                return false;
            }
        }
        return true;
    }

    /** TRY of a cairn, of whose amounts these are possible yet. */
    private int bestTrial(int cairn, int amounts) {
        int best = NONE;
        int left = Integer.bitCount(amounts) + 1;
        int most = mostFoodOf(party.all());
        for (int food = 0; amounts != 0 && food <= most; food++) {
            int atWorst = leftAtWorst(cairn, amounts, food);
            if (atWorst < left) {
                best = food;
                left = atWorst;
            }
        }
        return best;
    }

    private int leftAtWorst(int cairn, int amounts, int food) {
        int home = 0;
        for (int amount = 0; amount <= MOST_AT_CAIRN; amount++) {
            if ((amounts >> amount & 1) == 1) {
                party.setCairns(now.cairns);
                put(party.cairns, cairn - 1, amount);
                home += party.go(party.all(), LAST_STAGE, food) ? 1 : 0;
            }
        }
        return Math.max(home, Integer.bitCount(amounts) - home);
    }

    /** Fills the row of what lies after so many winters; answers the seed then. */
    private int letCreep(int many, int seed) {
        copy(now.cairns, wintered);
        int drawn = seed;
        for (int winter = 0; winter < many; winter++) {
            for (int place = 0; place < CAIRNS; place++) {
                drawn = nextSeed(drawn);
                int creeps = (drawn >> 16) % WINTER_DRAW;
                put(wintered, place, Math.max(0, at(wintered, place) - creeps));
            }
        }
        return drawn;
    }

    /** The rest by 2 to the 31 is in the lowest bits, which no overflow spoils. */
    private static int nextSeed(int seed) {
        return (1103515245 * seed + 12345) & 0x7FFFFFFF;
    }

    // ---- kinds

    private static int kindOf(int code) {
        switch (code) {
            case 'm': return 0;
            case 'p': return PONY;
            case 'd': return DOG;
            case 'b': return BOY;
            case 'h': return HUSKY;
            default: return NONE;
        }
    }

    /** Of kind 0 each is one; a husky is a dog, too. */
    private static boolean isOf(int own, int kind) {
        return kind == 0 || own == kind || (kind == DOG && own == HUSKY);
    }

    // ---- rows, whose places are looked at before they are used

    private static int at(int[] row, int place) {
        return row != null && place >= 0 && place < row.length ? row[place] : 0;
    }

    private static void put(int[] row, int place, int value) {
        if (row != null && place >= 0 && place < row.length) {
            row[place] = value;
        }
    }

    private static void copy(int[] from, int[] to) {
        for (int place = 0; to != null && place < to.length; place++) {
            put(to, place, at(from, place));
        }
    }

    private static int sum(int[] row) {
        int sum = 0;
        for (int place = 0; row != null && place < row.length; place++) {
            sum += row[place];
        }
        return sum;
    }

    /** The letters that came, until a camp is read of them. */
    private static final class Page {
        private final int[] codes = new int[MOST_LETTERS];
        private int length;

        private boolean add(int code) {
            if (length >= MOST_LETTERS) {
                return false;
            }
            put(codes, length, code);
            length++;
            return true;
        }

        private int codeAt(int place) {
            return at(codes, place);
        }

        private int firstWrong() {
            int kindsRead = 0;
            int digitsRead = NONE;
            for (int place = 0; place < length; place++) {
                int code = codeAt(place);
                if (digitsRead != NONE) {
                    if (digitsRead == CAIRNS || code < '0' || code > '9') {
                        return place;
                    }
                    digitsRead++;
                } else if (code == ';' && kindsRead >= FEWEST_MEMBERS) {
                    digitsRead = 0;
                } else if (kindOf(code) != NONE && kindsRead < MOST_MEMBERS) {
                    kindsRead++;
                } else {
                    return place;
                }
            }
            return length;
        }

        private boolean isCamp() {
            return firstWrong() == length && codeAt(length - CAIRNS - 1) == ';';
        }
    }

    /** What an image keeps. */
    private static final class Standing {
        private int alive;
        private final int[] cairns = new int[CAIRNS];
        private int marches;
        private int comingsHome;
        private int heard;
        private final int[] heardMembers = new int[MOST_HEARD];
        private final int[] heardStages = new int[MOST_HEARD];
        private final int[] heardFoods = new int[MOST_HEARD];
        private final int[] heardHomes = new int[MOST_HEARD];

        private void begin(int living) {
            alive = living;
            marches = 0;
            comingsHome = 0;
            heard = 0;
        }

        private void note(int some, int stage, int food, boolean home) {
            put(heardMembers, heard, some);
            put(heardStages, heard, stage);
            put(heardFoods, heard, food);
            put(heardHomes, heard, home ? 1 : 0);
            heard++;
        }

        private void takeFrom(Standing other) {
            if (other == null) {
                return;
            }
            alive = other.alive;
            marches = other.marches;
            comingsHome = other.comingsHome;
            heard = other.heard;
            copy(other.cairns, cairns);
            copy(other.heardMembers, heardMembers);
            copy(other.heardStages, heardStages);
            copy(other.heardFoods, heardFoods);
            copy(other.heardHomes, heardHomes);
        }
    }

    /** The members of the camp, and a march of theirs as it would be: one serves for all. */
    private static final class Party {
        private final int[] kinds = new int[MOST_MEMBERS];
        private int size;
        private final int[] cairns = new int[CAIRNS];
        private int alive;
        private int food;
        private int pull;
        private int eat;
        private int diedOn;

        /** The bits of all members there are: 0 without a camp. */
        private int all() {
            return (1 << size) - 1;
        }

        private int together(int some, int[] ofKind) {
            int sum = 0;
            for (int member = 0; member < size; member++) {
                if ((some >> member & 1) == 1) {
                    sum += at(ofKind, at(kinds, member));
                }
            }
            return sum;
        }

        /** So much lies at the cairns for the next march. */
        private void setCairns(int[] lying) {
            copy(lying, cairns);
        }

        /** Goes out and home; answers whether any of them comes home. */
        private boolean go(int some, int stage, int foodTaken) {
            setOut(some, foodTaken);
            for (int leg = 1; leg <= 2 * stage; leg++) {
                boolean isOut = leg <= stage;
                if (isOut && leg - 1 >= SINKING_STAGE) {
                    eatPonies();
                }
                eatBeasts();
                if (alive == 0 || food < eat) {
                    dieOn(leg);
                    return false;
                }
                food -= eat;
                if (!isOut) {
                    takeUpAt(2 * stage - leg);
                }
            }
            return true;
        }

        private void setOut(int some, int foodTaken) {
            alive = some;
            pull = together(some, PULLS);
            eat = together(some, EATS);
            food = Math.min(foodTaken, pull);
            diedOn = 0;
        }

        private void eatPonies() {
            for (int member = size - 1; member >= 0; member--) {
                if (at(kinds, member) == PONY) {
                    devour(member);
                }
            }
        }

        private void eatBeasts() {
            for (int member = size - 1; member >= 0 && food < eat; member--) {
                int kind = at(kinds, member);
                if (kind == PONY || isOf(kind, DOG)) {
                    devour(member);
                }
            }
        }

        private void devour(int member) {
            if ((alive >> member & 1) == 0) {
                return;
            }
            int kind = at(kinds, member);
            alive &= ~(1 << member);
            pull -= at(PULLS, kind);
            eat -= at(EATS, kind);
            food = Math.min(food + at(FEEDS, kind), pull);
        }

        private void dieOn(int leg) {
            alive = 0;
            food = 0;
            diedOn = leg;
        }

        /** Home, at stage 0, there is no cairn: then nothing is taken. */
        private void takeUpAt(int stage) {
            int taken = Math.min(at(cairns, stage - 1), pull - food);
            put(cairns, stage - 1, at(cairns, stage - 1) - taken);
            food += taken;
        }
    }
}
