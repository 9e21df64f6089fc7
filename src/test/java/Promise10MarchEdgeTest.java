import java.util.List;

/** Boundary cases of promise 10: march, and of what a march is. */
public final class Promise10MarchEdgeTest {
    private static final Cases CASES = new Cases("10, march");

    public static void main(String[] args) {
        members();
        stagesAndFoods();
        theDead();
        foodTaken();
        beasts();
        greatestNumber();
        ponies();
        nobodyLeft();
        cairns();
        whoStays();
        CASES.end();
    }

    private static void members() {
        CASES.is("members 1, the least", Due.camp("mm;00000").march(1, 1, 4), 1);
        CASES.is("members 3, all of two", Due.camp("mm;00000").march(3, 1, 8), 3);
        CASES.is("members 63, all of six", Due.camp("mmmmmm;00000").march(63, 1, 24), 63);
        for (int some : new int[] {0, -1, Integer.MIN_VALUE, 64, 65, Integer.MIN_VALUE + 1, Integer.MAX_VALUE}) {
            CASES.refused("members " + some + " are OUTSIDE", ColdDepots.OUTSIDE, Standing.ALL,
                x -> x.march(some, 1, 9));
        }
        List<Standing> two = List.of(Standing.TWO, Standing.NOBODY, Standing.SECOND);
        for (int some : new int[] {4, 5, 63}) {
            CASES.refused("members " + some + " of two are OUTSIDE", ColdDepots.OUTSIDE, two, x -> x.march(some, 1, 9));
        }
        for (int some : new int[] {1, 3}) {
            CASES.refused("members " + some + " without a camp are OUTSIDE", ColdDepots.OUTSIDE, Standing.WITHOUT_CAMP,
                x -> x.march(some, 1, 9));
        }
    }

    private static void stagesAndFoods() {
        CASES.is("stage 1 is the first", Due.camp("mh;00902").march(3, 1, 7), 3);
        CASES.is("stage 6 is the last", Due.camp("mh;00902").march(3, 6, 7), 1);
        for (int stage : new int[] {0, -1, Integer.MIN_VALUE, 7, Integer.MAX_VALUE}) {
            CASES.refused("stage " + stage + " is OUTSIDE", ColdDepots.OUTSIDE, Standing.ALL,
                x -> x.march(1, stage, 4));
        }
        CASES.is("food 0 is the least", Due.camp("md;00000").march(3, 1, 0), 1);
        CASES.is("food 40 is the most", Due.camp("md;00000").march(3, 1, 40), 3);
        for (int food : new int[] {-1, Integer.MIN_VALUE, 41, Integer.MAX_VALUE}) {
            CASES.refused("food " + food + " is OUTSIDE", ColdDepots.OUTSIDE, Standing.ALL, x -> x.march(1, 1, food));
        }
    }

    private static void theDead() {
        List<Standing> ponyDied = List.of(Standing.MIDWAY);
        List<Standing> nobody = List.of(Standing.NOBODY);
        for (int some : new int[] {2, 3, 63}) {
            CASES.refused("members " + some + ", of whom the pony died", ColdDepots.STATE, ponyDied,
                x -> x.march(some, 1, 9));
        }
        for (int some : new int[] {1, 2, 3}) {
            CASES.refused("members " + some + ", who died", ColdDepots.STATE, nobody, x -> x.march(some, 1, 9));
        }
        CASES.refused("OUTSIDE is first, by the stage", ColdDepots.OUTSIDE, ponyDied, x -> x.march(2, 7, 9));
        CASES.refused("OUTSIDE is first, by the food", ColdDepots.OUTSIDE, ponyDied, x -> x.march(2, 1, 41));
        CASES.is("all who live", Standing.MIDWAY.make().march(61, 1, 15), 61);
    }

    /** What would() tells, then what march() does, is home, food, at all cairns, died on. */
    private static void march(String name, String camp, int[] call, int... want) {
        CASES.test(name + " (" + camp + ")", due -> {
            ColdDepots x = Due.camp(camp);
            for (int what = 0; what <= 3; what++) {
                due.due("would(.., " + what + ")", x.would(call[0], call[1], call[2], what), want[what]);
            }
            int all = (1 << x.count(0)) - 1;
            due.due("march()", x.march(call[0], call[1], call[2]), want[0]);
            due.due("at all cairns", x.count(2), want[2]);
            due.due("marches", x.count(3), 1);
            due.due("of which any came home", x.count(4), want[0] == 0 ? 0 : 1);
            for (int member = 0; member < x.count(0); member++) {
                int lives = (all - call[0] + want[0]) >> member & 1;
                due.due("whether " + member + " lives", x.member(member, 4), lives);
            }
        });
    }

    private static int[] call(int members, int stage, int food) {
        return new int[] {members, stage, food};
    }

    private static void foodTaken() {
        march("as much as he pulls", "mm;00000", call(1, 1, 4), 1, 2, 0, 0);
        march("one more than he pulls stays behind", "mm;00000", call(1, 1, 5), 1, 2, 0, 0);
        march("40 stays behind, too", "mm;00000", call(1, 1, 40), 1, 2, 0, 0);
        march("one less than he pulls", "mm;00000", call(1, 1, 3), 1, 1, 0, 0);
        march("as much as he eats", "mm;00000", call(1, 1, 2), 1, 0, 0, 0);
        march("one less than he eats: dies on the last", "mm;00000", call(1, 1, 1), 0, 0, 0, 2);
        march("nothing: dies on the first", "mm;00000", call(1, 1, 0), 0, 0, 0, 1);
        march("two eat as much as there is", "mm;00000", call(3, 1, 4), 3, 0, 0, 0);
        march("two eat one more than there is", "mm;00000", call(3, 1, 3), 0, 0, 0, 2);
        march("boys are no beasts", "bb;00000", call(3, 1, 3), 0, 0, 0, 2);
        march("six ponies pull more than 40", "pppppp;00000", call(63, 1, 40), 63, 16, 0, 0);
        march("six ponies eat as much as there is", "pppppp;00000", call(63, 1, 24), 63, 0, 0, 0);
        march("six ponies, one less", "pppppp;00000", call(63, 1, 23), 31, 7, 0, 0);
    }

    private static void beasts() {
        march("as much as all eat: none is eaten", "md;00000", call(3, 1, 4), 3, 0, 0, 0);
        march("one less on the last stage: the dog is eaten", "md;00000", call(3, 1, 3), 1, 2, 0, 0);
        march("none on the last stage", "md;00000", call(3, 1, 2), 1, 1, 0, 0);
        march("one less on the first stage", "md;00000", call(3, 1, 1), 1, 1, 0, 0);
        march("none on the first stage", "md;00000", call(3, 1, 0), 1, 0, 0, 0);
        march("a husky feeds 3", "mh;00000", call(3, 1, 0), 1, 1, 0, 0);
        march("a pony feeds 6, no more than a man pulls", "mp;00000", call(3, 1, 0), 1, 2, 0, 0);
        march("a pony feeds no more than a boy pulls", "bp;00000", call(3, 1, 1), 1, 0, 0, 0);
        march("a pony feeds 6 to those who pull 6", "mbp;00000", call(7, 1, 0), 3, 2, 0, 0);
        march("a pony feeds 6 to those who pull more", "mmp;00000", call(7, 1, 1), 3, 3, 0, 0);
        march("two are eaten on one stage", "mpd;00000", call(7, 1, 0), 1, 2, 0, 0);
        march("all beasts are eaten and it is less yet", "mmmd;00000", call(15, 1, 0), 0, 0, 0, 1);
    }

    private static void greatestNumber() {
        march("the husky behind the dog", "mdh;00000", call(7, 1, 2), 3, 1, 0, 0);
        march("the dog behind the husky", "mhd;00000", call(7, 1, 2), 3, 0, 0, 0);
        march("the pony behind the dog", "mdp;00000", call(7, 1, 3), 3, 2, 0, 0);
        march("the dog behind the pony", "mpd;00000", call(7, 1, 3), 1, 3, 0, 0);
        march("a boy behind the dog is not eaten", "mdb;00000", call(7, 1, 2), 5, 0, 0, 0);
        march("a man behind the dogs", "ddm;00000", call(7, 1, 2), 5, 0, 0, 0);
        march("member 5 first, then 4", "ddmddd;00000", call(63, 1, 5), 15, 0, 0, 0);
        march("who stays is not eaten", "mdd;00000", call(3, 1, 0), 1, 0, 0, 0);
    }

    private static void ponies() {
        march("to stage 3 no pony sinks, nor on the way home", "mp;99999", call(3, 3, 12), 3, 9, 30, 0);
        march("to stage 4 the pony sinks", "mp;99999", call(3, 4, 12), 1, 3, 41, 0);
        march("to stage 4, without food at the cairns", "mp;00000", call(3, 4, 12), 0, 0, 0, 8);
        march("to stage 4, a dog does not sink", "mpd;00000", call(7, 4, 14), 1, 0, 0, 0);
        march("to stage 4, both ponies sink", "mpp;10000", call(7, 4, 20), 1, 0, 0, 0);
        march("to stage 4, ponies alone", "pp;99999", call(3, 4, 16), 0, 0, 45, 4);
        march("to stage 3, ponies alone", "pp;99999", call(3, 3, 16), 3, 10, 27, 0);
    }

    private static void nobodyLeft() {
        march("the last of two dogs is not eaten", "dd;00000", call(3, 1, 0), 1, 0, 0, 0);
        march("the last of two dogs is eaten", "dd;00000", call(3, 2, 0), 0, 0, 0, 3);
        march("a dog alone", "dm;00000", call(1, 1, 0), 0, 0, 0, 1);
    }

    private static void cairns() {
        march("where he turns he takes nothing", "mm;90000", call(1, 1, 4), 1, 2, 9, 0);
        march("as far as he can pull it", "mm;90000", call(1, 2, 4), 1, 3, 6, 0);
        march("one more than he can pull", "mm;40000", call(1, 2, 4), 1, 3, 1, 0);
        march("as much as he can pull", "mm;30000", call(1, 2, 4), 1, 3, 0, 0);
        march("one less than he can pull", "mm;20000", call(1, 2, 4), 1, 2, 0, 0);
        march("on the way out they take nothing", "mm;99999", call(3, 4, 8), 0, 0, 45, 5);
        march("who dies on the way home took it", "mm;01000", call(3, 3, 8), 0, 0, 0, 5);
        march("who dies ahead of a cairn took nothing there", "mm;10000", call(3, 3, 8), 0, 0, 1, 5);
        march("cairn 5 on the way home from stage 6", "mh;00902", call(3, 6, 7), 1, 1, 5, 0);
        march("cairn 5 where they turn", "mh;00909", call(3, 5, 7), 1, 1, 14, 0);
        march("dies on the last stage home", "hm;00005", call(3, 6, 7), 0, 0, 1, 12);
    }

    private static void whoStays() {
        march("one of two dies", "mm;00000", call(2, 6, 0), 0, 0, 0, 1);
        march("one of six comes home", "mmmmmm;00000", call(32, 1, 2), 32, 0, 0, 0);
        march("five of six die", "mmmmmm;00000", call(31, 6, 0), 0, 0, 0, 1);
        CASES.test("a march is counted, whoever comes home", due -> {
            ColdDepots x = Due.camp("mm;00000");
            due.due("home", x.march(1, 1, 2), 1);
            due.due("died", x.march(1, 1, 1), 0);
            due.due("home", x.march(2, 1, 2), 2);
            due.due("count(3)", x.count(3), 3);
            due.due("count(4)", x.count(4), 2);
        });
    }
}
