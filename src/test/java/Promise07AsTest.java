/** A member taken as a kind. */
public final class Promise07AsTest {
    public static void main(String[] args) {
        Due due = new Due();
        ColdDepots x = Due.camp("hbdpm;00000");
        int[][] want = {{0, -1, 0, -1, 0}, {1, -1, -1, 1, -1}, {2, -1, 2, -1, -1}, {3, 3, -1, -1, -1},
            {4, -1, -1, -1, -1}};
        for (int member = 0; member < 5; member++) {
            for (int kind = 0; kind <= 4; kind++) {
                due.due("as(" + member + ", " + kind + ")", x.as(member, kind), want[member][kind]);
            }
        }
        int[] outside = {-1, 5, Integer.MIN_VALUE, Integer.MAX_VALUE};
        for (int number : outside) {
            due.due("as(" + number + ", 0)", x.as(number, 0), ColdDepots.UNKNOWN);
            due.due("as(" + number + ", 7): UNKNOWN is first", x.as(number, 7), ColdDepots.UNKNOWN);
            due.due("as(0, " + number + ")", x.as(0, number), ColdDepots.OUTSIDE);
        }
        x.march(1, 6, 0);
        due.due("as(0, 2) of one that died", x.as(0, 2), 0);
        due.end();
    }
}
