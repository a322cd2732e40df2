import java.math.BigInteger;
import java.util.Random;

/** Promise 5: sums, differences, products and quotients modulo P and N, and what is refused. */
final class Promise05WorkTest {
    private static final BigInteger[] MODULI = {Model.P, Model.N};

    private final Check check = new Check();

    public static void main(String[] args) {
        Promise05WorkTest test = new Promise05WorkTest();
        for (int m = 0; m < 2; m++) {
            test.checkEdges(m);
            test.checkRandom(m);
            test.checkLowProducts(m);
            test.checkSameRegisters(m);
            test.checkNotBelow(m);
        }
        test.checkNoSuch();
        test.check.end();
    }

    private static BigInteger due(int kind, BigInteger a, BigInteger b, BigInteger modulus) {
        switch (kind) {
            case 0:
                return a.add(b).mod(modulus);
            case 1:
                return a.subtract(b).mod(modulus);
            case 2:
                return a.multiply(b).mod(modulus);
            default:
                return a.multiply(b.modInverse(modulus)).mod(modulus);
        }
    }

    private void checkAll(int m, BigInteger a, BigInteger b) {
        for (int kind = 0; kind < 4; kind++) {
            Bench bench = new Bench();
            bench.write(1, a);
            bench.write(2, b);
            bench.write(0, BigInteger.TEN);
            boolean refused = kind == 3 && b.signum() == 0;
            String call = "work(" + kind + ") of " + a + " and " + b + " by " + m;
            check.due(call, bench.desk.work(kind, 0, 1, 2, m), refused ? 0 : 1);
            check.due("the outcome of " + call, bench.read(0),
                    refused ? BigInteger.TEN : due(kind, a, b, MODULI[m]));
            check.due("s behind " + call, bench.read(1), a);
            check.due("t behind " + call, bench.read(2), b);
        }
    }

    private void checkEdges(int m) {
        BigInteger modulus = MODULI[m];
        BigInteger half = modulus.shiftRight(1);
        BigInteger[] edges = {BigInteger.ZERO, BigInteger.ONE, BigInteger.TWO, half, half.add(BigInteger.ONE),
            BigInteger.ONE.shiftLeft(32), BigInteger.ONE.shiftLeft(128), BigInteger.ONE.shiftLeft(255),
            Bench.TWO_256.subtract(modulus), modulus.subtract(BigInteger.TWO), modulus.subtract(BigInteger.ONE)};
        for (BigInteger a : edges) {
            for (BigInteger b : edges) {
                checkAll(m, a, b);
            }
        }
    }

    private void checkRandom(int m) {
        Random random = new Random(5);
        for (int i = 0; i < 2000; i++) {
            checkAll(m, new BigInteger(256, random).mod(MODULI[m]),
                    MODULI[m].subtract(new BigInteger(1 + random.nextInt(255), random)).mod(MODULI[m]));
        }
    }

    /** High factors of a low product: what is left of it crosses 2 ^ 256 again on the way down. */
    private void checkLowProducts(int m) {
        Random random = new Random(55);
        for (int i = 0; i < 1000; i++) {
            BigInteger product = new BigInteger(1 + random.nextInt(132), random);
            BigInteger b = new BigInteger(256, random).mod(MODULI[m]);
            checkAll(m, product.multiply(b.modInverse(MODULI[m])).mod(MODULI[m]), b);
        }
        BigInteger gap = Bench.TWO_256.subtract(MODULI[m]);
        for (int i = 0; i < 1000; i++) {
            BigInteger product = gap.add(new BigInteger(gap.bitLength() - 1, random));
            BigInteger b = new BigInteger(256, random).mod(MODULI[m]);
            checkAll(m, product.multiply(b.modInverse(MODULI[m])).mod(MODULI[m]), b);
        }
    }

    /** r may be s, t or both. */
    private void checkSameRegisters(int m) {
        BigInteger a = Model.BASE.x();
        BigInteger b = Model.BASE.y();
        for (int kind = 0; kind < 4; kind++) {
            int[][] calls = {{1, 1, 2}, {2, 1, 2}, {1, 1, 1}, {0, 1, 1}};
            for (int[] call : calls) {
                Bench bench = new Bench();
                bench.write(1, a);
                bench.write(2, b);
                check.due("work(" + kind + ") on like registers",
                        bench.desk.work(kind, call[0], call[1], call[2], m), 1);
                check.due("its outcome", bench.read(call[0]),
                        due(kind, call[1] == 1 ? a : b, call[2] == 1 ? a : b, MODULI[m]));
            }
        }
    }

    private void checkNotBelow(int m) {
        BigInteger[] tooHigh = {MODULI[m], MODULI[m].add(BigInteger.ONE), Bench.HIGHEST};
        for (BigInteger high : tooHigh) {
            Bench bench = new Bench();
            bench.write(1, high);
            bench.write(2, BigInteger.ONE);
            String before = bench.state();
            for (int kind = 0; kind < 4; kind++) {
                check.due("work(" + kind + ") with s = " + high, bench.desk.work(kind, 0, 1, 2, m), 0);
                check.due("work(" + kind + ") with t = " + high, bench.desk.work(kind, 0, 2, 1, m), 0);
            }
            check.due("the state behind refused calls", bench.state(), before);
        }
        Bench between = new Bench();
        between.write(1, Model.N);
        between.write(2, BigInteger.ONE);
        check.due("N is below P alone", between.desk.work(0, 0, 1, 2, m), m == 0 ? 1 : 0);
    }

    private void checkNoSuch() {
        Bench bench = new Bench();
        bench.write(1, BigInteger.TEN);
        bench.write(2, BigInteger.TWO);
        String before = bench.state();
        for (int kind = 0; kind < 4; kind++) {
            for (int none : Bench.NO_REGISTERS) {
                check.due("no r " + none, bench.desk.work(kind, none, 1, 2, 0), 0);
                check.due("no s " + none, bench.desk.work(kind, 0, none, 2, 0), 0);
                check.due("no t " + none, bench.desk.work(kind, 0, 1, none, 0), 0);
            }
            int[] noModuli = {-1, 2, Integer.MIN_VALUE, Integer.MAX_VALUE};
            for (int none : noModuli) {
                check.due("no m " + none, bench.desk.work(kind, 0, 1, 2, none), 0);
            }
        }
        int[] noKinds = {-1, 4, 5, Integer.MIN_VALUE, Integer.MAX_VALUE};
        for (int none : noKinds) {
            check.due("no kind " + none, bench.desk.work(none, 0, 1, 2, 0), 0);
        }
        check.due("the state behind refused calls", bench.state(), before);
    }
}
