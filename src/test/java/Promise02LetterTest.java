/** A letter comes behind the page. */
public final class Promise02LetterTest {
    public static void main(String[] args) {
        Due due = new Due();
        ColdDepots x = new ColdDepots();
        int[] wrong = {0, 127, 128, 256 + 'm', -1, Integer.MIN_VALUE, Integer.MAX_VALUE};
        for (int code : wrong) {
            due.due("letter(" + code + ")", x.letter(code), ColdDepots.OUTSIDE);
        }
        due.due("count(8) behind refusals", x.count(8), 0);
        due.due("letter(1)", x.letter(1), 1);
        due.due("letter(126)", x.letter(126), 2);
        for (int length = 3; length <= 15; length++) {
            due.due("letter " + length, x.letter('m'), length);
        }
        due.due("letter 16", x.letter('m'), ColdDepots.FULL);
        due.due("letter(126) as the 16th", x.letter(126), ColdDepots.FULL);
        due.due("letter(0) as the 16th: OUTSIDE is first", x.letter(0), ColdDepots.OUTSIDE);
        due.due("count(8)", x.count(8), 15);
        x.blank();
        due.due("letter behind blank()", x.letter('p'), 1);
        Due.type(x, "m;12345");
        due.due("fault(): the letters stand in their order", x.fault(), 8);
        due.due("camp()", x.camp(), 2);
        due.due("member(0, 0)", x.member(0, 0), 1);
        due.due("cairn(5, 0)", x.cairn(5, 0), 5);
        due.end();
    }
}
