import java.math.BigInteger;
import java.util.Random;

/** Promise 6: the even root modulo P, and what is refused. */
final class Promise06RootTest {
    private static final BigInteger MARK = BigInteger.valueOf(99);

    private final Check check = new Check();

    public static void main(String[] args) {
        Promise06RootTest test = new Promise06RootTest();
        test.checkSquares();
        test.checkOthers();
        test.checkNoSuch();
        test.check.end();
    }

    private void checkSquares() {
        Random random = new Random(6);
        for (int i = 0; i < 200; i++) {
            BigInteger root = i < 20 ? BigInteger.valueOf(i) : new BigInteger(256, random).mod(Model.P);
            BigInteger square = root.multiply(root).mod(Model.P);
            BigInteger even = root.testBit(0) ? Model.P.subtract(root) : root;
            Bench bench = new Bench();
            bench.write(4, square);
            check.due("root of " + square, bench.desk.root(3, 4), 1);
            check.due("the root of " + square, bench.read(3), even);
            check.due("s behind it", bench.read(4), square);
            check.due("root of " + square + " in its place", bench.desk.root(4, 4), 1);
            check.due("the root in its place", bench.read(4), even);
        }
    }

    /** P leaves 3 by 4, so of a number and its negative just one has a root. */
    private void checkOthers() {
        Random random = new Random(66);
        for (int i = 0; i < 100; i++) {
            BigInteger root = i < 20 ? BigInteger.valueOf(i + 1) : new BigInteger(255, random).add(BigInteger.ONE);
            BigInteger none = root.multiply(root).negate().mod(Model.P);
            checkRefused(none, 3, 4);
        }
        checkRefused(Model.P, 3, 4);
        checkRefused(Model.P.add(BigInteger.ONE), 3, 4);
        checkRefused(Model.P.add(BigInteger.valueOf(4)), 3, 4);
        checkRefused(Bench.HIGHEST, 3, 4);
        checkRefused(Model.P.subtract(BigInteger.ONE), 3, 4);
    }

    private void checkNoSuch() {
        for (int none : Bench.NO_REGISTERS) {
            checkRefused(BigInteger.ONE, none, 4);
            checkRefused(BigInteger.ONE, 3, none);
            checkRefused(BigInteger.ONE, none, none);
        }
    }

    private void checkRefused(BigInteger number, int r, int s) {
        Bench bench = new Bench();
        bench.write(3, MARK);
        bench.write(4, number);
        String before = bench.state();
        check.due("root(" + r + ", " + s + ") of " + number, bench.desk.root(r, s), 0);
        check.due("the state behind it", bench.state(), before);
    }
}
