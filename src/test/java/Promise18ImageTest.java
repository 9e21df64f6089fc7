/** An image is kept. */
public final class Promise18ImageTest {
    public static void main(String[] args) {
        Due due = new Due();
        ColdDepots x = new ColdDepots();
        due.due("image() without a camp", x.image(), ColdDepots.STATE);
        due.due("restore() behind it", x.restore(), ColdDepots.STATE);
        Due.type(x, "mmm;90000");
        due.due("image() ahead of camp()", x.image(), ColdDepots.STATE);
        x.camp();
        due.due("image()", x.image(), 0);
        x.march(1, 1, 9);
        due.due("image() behind a march", x.image(), 1);
        x.march(2, 6, 0);
        due.due("image() behind a march that died", x.image(), 2);
        due.due("image() again", x.image(), 2);
        x.march(4, 1, 9);
        due.due("restore(): the latest", x.restore(), 2);
        due.due("member(1, 4)", x.member(1, 4), 0);
        due.due("count(4)", x.count(4), 1);
        x.march(5, 1, 9);
        x.march(5, 1, 9);
        due.due("image() of three", x.image() + x.count(9), 5);
        due.end();
    }
}
