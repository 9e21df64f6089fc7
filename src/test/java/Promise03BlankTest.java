/** The page is empty. */
public final class Promise03BlankTest {
    public static void main(String[] args) {
        Due due = new Due();
        ColdDepots x = Due.camp("mm;12345");
        due.due("blank() behind camp()", x.blank(), 0);
        Due.type(x, "mp");
        due.due("blank()", x.blank(), 2);
        due.due("blank() again", x.blank(), 0);
        due.due("count(8)", x.count(8), 0);
        due.due("fault()", x.fault(), 0);
        due.due("the camp stays", x.count(0), 2);
        Due.type(x, "mmmmmmmmmmmmmmmmm");
        due.due("blank() of a full page", x.blank(), 15);
        Due.type(x, "bbb;00000");
        due.due("what was blanked does not come back", x.camp(), 3);
        due.end();
    }
}
