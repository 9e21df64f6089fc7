/** What is told of a member. */
public final class Promise06MemberTest {
    public static void main(String[] args) {
        Due due = new Due();
        ColdDepots x = Due.camp("mpdbh;00000");
        int[][] want = {{0, 4, 1, 0, 1}, {1, 8, 2, 6, 1}, {2, 2, 1, 2, 1}, {3, 2, 1, 0, 1}, {4, 3, 1, 3, 1}};
        for (int member = 0; member < 5; member++) {
            for (int what = 0; what <= 4; what++) {
                due.due("member(" + member + ", " + what + ")", x.member(member, what), want[member][what]);
            }
        }
        int[] nobody = {-1, 5, 6, 31, 32, Integer.MIN_VALUE, Integer.MAX_VALUE};
        for (int member : nobody) {
            due.due("member(" + member + ", 0)", x.member(member, 0), ColdDepots.UNKNOWN);
            due.due("member(" + member + ", 9): UNKNOWN is first", x.member(member, 9), ColdDepots.UNKNOWN);
        }
        int[] nothing = {-1, 5, Integer.MIN_VALUE, Integer.MAX_VALUE};
        for (int what : nothing) {
            due.due("member(4, " + what + ")", x.member(4, what), ColdDepots.OUTSIDE);
        }
        x.march(2 + 8, 6, 0);
        due.due("member(1, 4) that died", x.member(1, 4), 0);
        due.due("member(3, 4) that died", x.member(3, 4), 0);
        due.due("member(2, 4) that stayed", x.member(2, 4), 1);
        due.due("member(1, 0) that died", x.member(1, 0), 1);
        due.due("member(1, 1) that died", x.member(1, 1), 8);
        due.due("member(1, 2) that died", x.member(1, 2), 2);
        due.due("member(1, 3) that died", x.member(1, 3), 6);
        due.end();
    }
}
