import java.util.List;
import java.util.function.Supplier;

/** Ways in which an object may stand; each object is made anew. */
final class Standing {
    static final String SIX_TEXT = "mpdbhm;90519";
    static final String TWO_TEXT = "mh;00902";

    static final Standing NEW = new Standing("a new object", ColdDepots::new);
    static final Standing HALF_PAGE = page("mp;0");
    static final Standing UNREAD = page("mpd;12345");
    static final Standing FULL_PAGE = page("mpdbhm;12345~~~");
    static final Standing TWO = new Standing("a camp of two", () -> Due.camp(TWO_TEXT));
    static final Standing SIX = new Standing("a camp of six", () -> Due.camp(SIX_TEXT));
    static final Standing MIDWAY = new Standing("midway, member 1 died behind the image", Standing::midway);
    static final Standing FULL_UP = new Standing("page and what is heard full, team() done 20 times", Standing::fullUp);
    static final Standing NOBODY = new Standing("nobody lives", Standing::nobody);
    static final Standing SECOND = new Standing("a second camp, its text again on the page", Standing::second);

    static final List<Standing> WITHOUT_CAMP = List.of(NEW, HALF_PAGE, UNREAD, FULL_PAGE);
    static final List<Standing> WITH_CAMP = List.of(TWO, SIX, MIDWAY, FULL_UP, NOBODY, SECOND);
    static final List<Standing> ALL =
        List.of(NEW, HALF_PAGE, UNREAD, FULL_PAGE, TWO, SIX, MIDWAY, FULL_UP, NOBODY, SECOND);

    private final String name;
    private final Supplier<ColdDepots> maker;
    private List<String> told;

    private Standing(String name, Supplier<ColdDepots> maker) {
        this.name = name;
        this.maker = maker;
    }

    static Standing made(String name, Supplier<ColdDepots> maker) {
        return new Standing(name, maker);
    }

    static Standing page(String text) {
        return new Standing("with '" + text + "' on the page", () -> Due.page(text));
    }

    String name() {
        return name;
    }

    ColdDepots make() {
        return maker.get();
    }

    /** The same each time, so it is told once and kept. */
    List<String> told() {
        if (told == null) {
            told = Told.of(maker);
        }
        return told;
    }

    private static ColdDepots midway() {
        ColdDepots x = Due.camp(SIX_TEXT);
        x.hear(1, 2, 3, true);
        x.march(3, 2, 12);
        x.team(1);
        x.image();
        x.march(2, 6, 0);
        x.lay(2, 7);
        x.hear(33, 2, 6, false);
        x.team(3);
        Due.type(x, "hh;1");
        return x;
    }

    private static ColdDepots fullUp() {
        ColdDepots x = Due.camp(SIX_TEXT);
        x.march(32, 6, 0);
        x.image();
        for (int heard = 1; heard <= 6; heard++) {
            x.hear(1, 2, 3, true);
        }
        for (int done = 1; done <= 20; done++) {
            x.team(1);
        }
        Due.type(x, "mpdbhm;12345~~~");
        return x;
    }

    private static ColdDepots nobody() {
        ColdDepots x = Due.camp(TWO_TEXT);
        x.image();
        x.march(1, 6, 0);
        x.march(2, 6, 0);
        return x;
    }

    private static ColdDepots second() {
        ColdDepots x = Due.camp(SIX_TEXT);
        x.march(1, 1, 4);
        x.hear(1, 1, 1, true);
        x.image();
        Due.type(x, TWO_TEXT);
        x.camp();
        Due.type(x, TWO_TEXT);
        return x;
    }
}
