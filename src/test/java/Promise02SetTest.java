import java.math.BigInteger;

/** Promise 2: a register becomes any number of four longs; false for no such register. */
final class Promise02SetTest {
    public static void main(String[] args) {
        Check check = new Check();
        Bench bench = new Bench();
        for (int r = 0; r < 8; r++) {
            check.due("set(" + r + ")", bench.desk.set(r, r - 4L, Long.MIN_VALUE + r, Long.MAX_VALUE, -r), true);
        }
        for (int r = 0; r < 8; r++) {
            check.due("get(" + r + ", 0)", bench.desk.get(r, 0), r - 4L);
            check.due("get(" + r + ", 1)", bench.desk.get(r, 1), Long.MIN_VALUE + r);
            check.due("get(" + r + ", 2)", bench.desk.get(r, 2), Long.MAX_VALUE);
            check.due("get(" + r + ", 3)", bench.desk.get(r, 3), (long) -r);
        }
        BigInteger[] edges = {BigInteger.ZERO, BigInteger.ONE, Model.P, Model.N, Bench.HIGHEST,
            BigInteger.ONE.shiftLeft(32), BigInteger.ONE.shiftLeft(63), BigInteger.ONE.shiftLeft(255)};
        for (BigInteger edge : edges) {
            check.due("set to " + edge, bench.write(5, edge), true);
            check.due("register 5", bench.read(5), edge);
        }
        String before = bench.state();
        for (int r : Bench.NO_REGISTERS) {
            check.due("set(" + r + ")", bench.desk.set(r, 1, 2, 3, 4), false);
        }
        check.due("the state behind refused calls", bench.state(), before);
        check.end();
    }
}
