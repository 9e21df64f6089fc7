/** A new object has no camp. */
public final class Promise01NewObjectTest {
    public static void main(String[] args) {
        Due due = new Due();
        ColdDepots x = new ColdDepots();
        for (int what = 0; what <= 10; what++) {
            due.due("count(" + what + ")", x.count(what), 0);
        }
        due.due("fault()", x.fault(), 0);
        due.due("member(0, 0)", x.member(0, 0), ColdDepots.UNKNOWN);
        due.due("as(0, 0)", x.as(0, 0), ColdDepots.UNKNOWN);
        due.due("cairn(1, 0)", x.cairn(1, 0), ColdDepots.UNKNOWN);
        due.due("lay(1, 0)", x.lay(1, 0), ColdDepots.UNKNOWN);
        due.due("march(1, 1, 1)", x.march(1, 1, 1), ColdDepots.OUTSIDE);
        due.due("would(1, 1, 1, 0)", x.would(1, 1, 1, 0), ColdDepots.OUTSIDE);
        due.due("need(1, 1)", x.need(1, 1), ColdDepots.OUTSIDE);
        due.due("far(1)", x.far(1), ColdDepots.OUTSIDE);
        due.due("team(1)", x.team(1), ColdDepots.STATE);
        due.due("hear(1, 1, 1, true)", x.hear(1, 1, 1, true), ColdDepots.OUTSIDE);
        due.due("forget()", x.forget(), 0);
        due.due("winters(1, 0, 2)", x.winters(1, 0, 2), ColdDepots.STATE);
        due.due("camp()", x.camp(), ColdDepots.STATE);
        due.due("image()", x.image(), ColdDepots.STATE);
        due.due("restore()", x.restore(), ColdDepots.STATE);
        due.due("blank()", x.blank(), 0);
        due.due("another object has a page of its own", x.letter('m') + new ColdDepots().count(8), 1);
        due.end();
    }
}
