/** Promise 3: long k of register r, the highest first; 0 for no such one. */
final class Promise03GetTest {
    public static void main(String[] args) {
        Check check = new Check();
        CurveDesk desk = new CurveDesk();
        desk.set(0, 11, -12, 13, Long.MIN_VALUE);
        desk.set(7, 0xFFFFFFFFL, 0xFFFFFFFF00000000L, -1, 1);
        long[] first = {11, -12, 13, Long.MIN_VALUE};
        long[] last = {0xFFFFFFFFL, 0xFFFFFFFF00000000L, -1, 1};
        for (int k = 0; k < 4; k++) {
            check.due("get(0, " + k + ")", desk.get(0, k), first[k]);
            check.due("get(7, " + k + ")", desk.get(7, k), last[k]);
            check.due("get(3, " + k + ")", desk.get(3, k), 0L);
        }
        int[] noLongs = {-1, 4, 5, 8, Integer.MIN_VALUE, Integer.MAX_VALUE};
        for (int k : noLongs) {
            check.due("get(0, " + k + ")", desk.get(0, k), 0L);
            check.due("get(7, " + k + ")", desk.get(7, k), 0L);
        }
        for (int r : Bench.NO_REGISTERS) {
            for (int k = -1; k < 5; k++) {
                check.due("get(" + r + ", " + k + ")", desk.get(r, k), 0L);
            }
        }
        check.end();
    }
}
