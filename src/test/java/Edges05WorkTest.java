import java.math.BigInteger;

/** The edges of promise 5, one test for each of its sentences, modulo P and modulo N. */
final class Edges05WorkTest {
    private static final BigInteger ZERO = BigInteger.ZERO;
    private static final BigInteger ONE = BigInteger.ONE;
    private static final BigInteger TWO = BigInteger.TWO;
    private static final BigInteger[] MODULI = {Model.P, Model.N};

    private final Check check = new Check();

    public static void main(String[] args) {
        Edges05WorkTest test = new Edges05WorkTest();
        for (int m = 0; m < 2; m++) {
            BigInteger last = MODULI[m].subtract(ONE);
            test.sumsWrapAround(m, last);
            test.differencesWrapAround(m, last);
            test.productsWrapAround(m, last);
            test.productsJustAbove2To256(m);
            test.quotients(m, last);
            test.sameRegisters(m);
            test.refusedIfSOrTIsNotBelowM(m);
            test.whatRHadDoesNotMatter(m);
            test.refusedForADivisionBy0(m);
            test.refusedForNoSuchRegister(m);
            test.refusedForNoSuchKind(m);
        }
        test.refusedForNoSuchModulus();
        test.betweenNAndP();
        test.check.end();
    }

    private void makes(int kind, int m, BigInteger a, BigInteger b, BigInteger due) {
        new Scene(check, "work " + kind + " modulo " + m + " of " + a + " and " + b).number(1, a).number(2, b)
                .answers(1, desk -> desk.work(kind, 0, 1, 2, m)).becomes(0, due).andNothingElse();
    }

    private void sumsWrapAround(int m, BigInteger last) {
        makes(0, m, ZERO, ZERO, ZERO);
        makes(0, m, last, ZERO, last);
        makes(0, m, last.subtract(ONE), ONE, last);
        makes(0, m, last, ONE, ZERO);
        makes(0, m, ONE, last, ZERO);
        makes(0, m, last, TWO, ONE);
        makes(0, m, last, last, last.subtract(ONE));
    }

    private void differencesWrapAround(int m, BigInteger last) {
        makes(1, m, ZERO, ZERO, ZERO);
        makes(1, m, last, last, ZERO);
        makes(1, m, last, ZERO, last);
        makes(1, m, ZERO, ONE, last);
        makes(1, m, ZERO, last, ONE);
        makes(1, m, ONE, last, TWO);
        makes(1, m, last.subtract(ONE), last, last);
    }

    private void productsWrapAround(int m, BigInteger last) {
        BigInteger gap = Bench.TWO_256.subtract(MODULI[m]);
        makes(2, m, ZERO, last, ZERO);
        makes(2, m, last, ZERO, ZERO);
        makes(2, m, ONE, last, last);
        makes(2, m, last, last, ONE);
        makes(2, m, last, TWO, last.subtract(ONE));
        makes(2, m, ONE.shiftLeft(128), ONE.shiftLeft(128), gap);
        makes(2, m, ONE.shiftLeft(255), TWO, gap);
        makes(2, m, last.add(TWO).shiftRight(1), TWO, ONE);
    }

    /**
     * High factors whose product leaves little. 2 ^ 256 leaves the gap, so what is left of these crosses
     * 2 ^ 256 once more, when it seems to be low enough; whether it does depends on the factors.
     */
    private void productsJustAbove2To256(int m) {
        BigInteger gap = Bench.TWO_256.subtract(MODULI[m]);
        BigInteger[] left = {ONE, gap.subtract(ONE), gap, gap.add(ONE), gap.add(gap.shiftRight(1)),
            gap.shiftLeft(1).subtract(ONE), gap.shiftLeft(1), gap.multiply(BigInteger.valueOf(3)), gap.shiftLeft(16)};
        BigInteger factor = Model.BASE.y();
        for (int i = 0; i < 30; i++) {
            factor = factor.multiply(factor).mod(MODULI[m]);
            for (BigInteger due : left) {
                makes(2, m, due.multiply(factor.modInverse(MODULI[m])).mod(MODULI[m]), factor, due);
            }
        }
    }

    private void quotients(int m, BigInteger last) {
        makes(3, m, ZERO, ONE, ZERO);
        makes(3, m, ZERO, last, ZERO);
        makes(3, m, last, ONE, last);
        makes(3, m, last, last, ONE);
        makes(3, m, ONE, last, last);
        makes(3, m, ONE, TWO, last.add(TWO).shiftRight(1));
        makes(3, m, BigInteger.valueOf(6), TWO, BigInteger.valueOf(3));
    }

    /** The outcome comes from what s and t had before, though r is one of them. */
    private void sameRegisters(int m) {
        String sentence = "Register r becomes, of registers s and t";
        int[] sOnT = {11, 5, 24, 0};
        int[] onItself = {16, 0, 64, 1};
        for (int i = 0; i < 4; i++) {
            int kind = i;
            BigInteger due = kind == 3
                    ? BigInteger.valueOf(8).multiply(BigInteger.valueOf(3).modInverse(MODULI[m])).mod(MODULI[m])
                    : BigInteger.valueOf(sOnT[kind]);
            new Scene(check, sentence + ", r = s").number(1, 8).number(2, 3)
                    .answers(1, desk -> desk.work(kind, 1, 1, 2, m)).becomes(1, due).andNothingElse();
            new Scene(check, sentence + ", r = t").number(1, 8).number(2, 3)
                    .answers(1, desk -> desk.work(kind, 2, 1, 2, m)).becomes(2, due).andNothingElse();
            new Scene(check, sentence + ", s = t").number(1, 8)
                    .answers(1, desk -> desk.work(kind, 2, 1, 1, m)).becomes(2, onItself[kind]).andNothingElse();
            new Scene(check, sentence + ", r = s = t").number(1, 8)
                    .answers(1, desk -> desk.work(kind, 1, 1, 1, m)).becomes(1, onItself[kind]).andNothingElse();
        }
    }

    private void refusedIfSOrTIsNotBelowM(int m) {
        BigInteger[] tooHigh = {MODULI[m], MODULI[m].add(ONE), Bench.HIGHEST};
        for (BigInteger high : tooHigh) {
            for (int i = 0; i < 4; i++) {
                int kind = i;
                new Scene(check, "0, refused, if s or t is not below m: " + high).number(1, high)
                        .answers(0, desk -> desk.work(kind, 0, 1, 2, m))
                        .answers(0, desk -> desk.work(kind, 0, 2, 1, m))
                        .answers(0, desk -> desk.work(kind, 0, 1, 1, m))
                        .answers(0, desk -> desk.work(kind, 1, 1, 2, m))
                        .answers(0, desk -> desk.work(kind, 1, 2, 1, m)).andNothingElse();
            }
        }
    }

    private void whatRHadDoesNotMatter(int m) {
        for (int i = 0; i < 4; i++) {
            int kind = i;
            new Scene(check, "0, refused, if s or t is not below m, but r may be").number(0, Bench.HIGHEST)
                    .number(1, 1).number(2, 1)
                    .answers(1, desk -> desk.work(kind, 0, 1, 2, m))
                    .becomes(0, new int[] {2, 0, 1, 1}[kind]).andNothingElse();
        }
    }

    private void refusedForADivisionBy0(int m) {
        String sentence = "0, refused, if for 3 t is 0";
        new Scene(check, sentence).number(2, 0)
                .answers(0, desk -> desk.work(3, 0, 1, 2, m))
                .answers(0, desk -> desk.work(3, 1, 1, 2, m))
                .answers(0, desk -> desk.work(3, 2, 1, 2, m))
                .answers(0, desk -> desk.work(3, 0, 2, 2, m)).andNothingElse();
        new Scene(check, sentence + ", for the others it may be").number(1, 9).number(2, 0)
                .answers(1, desk -> desk.work(0, 0, 1, 2, m))
                .answers(1, desk -> desk.work(1, 3, 1, 2, m))
                .answers(1, desk -> desk.work(2, 4, 1, 2, m))
                .becomes(0, 9).becomes(3, 9).becomes(4, 0).andNothingElse();
    }

    private void refusedForNoSuchRegister(int m) {
        for (int none : Bench.NO_REGISTERS) {
            for (int i = 0; i < 4; i++) {
                int kind = i;
                new Scene(check, "0, refused, if there is no such register: " + none)
                        .answers(0, desk -> desk.work(kind, none, 1, 2, m))
                        .answers(0, desk -> desk.work(kind, 0, none, 2, m))
                        .answers(0, desk -> desk.work(kind, 0, 1, none, m))
                        .answers(0, desk -> desk.work(kind, none, none, none, m)).andNothingElse();
            }
        }
    }

    private void refusedForNoSuchKind(int m) {
        int[] noKinds = {-1, 4, 5, Integer.MIN_VALUE, Integer.MAX_VALUE};
        for (int none : noKinds) {
            new Scene(check, "0, refused, if there is no such kind: " + none)
                    .answers(0, desk -> desk.work(none, 0, 1, 2, m))
                    .answers(0, desk -> desk.work(none, 1, 1, 1, m)).andNothingElse();
        }
    }

    private void refusedForNoSuchModulus() {
        int[] noModuli = {-1, 2, 3, Integer.MIN_VALUE, Integer.MAX_VALUE};
        for (int none : noModuli) {
            for (int i = 0; i < 4; i++) {
                int kind = i;
                new Scene(check, "0, refused, if there is no such modulus: " + none)
                        .answers(0, desk -> desk.work(kind, 0, 1, 2, none))
                        .answers(0, desk -> desk.work(kind, 1, 1, 1, none)).andNothingElse();
            }
        }
    }

    /** N .. P - 1 are below the one modulus and not below the other. */
    private void betweenNAndP() {
        BigInteger[] between = {Model.N, Model.N.add(ONE), Model.P.subtract(ONE)};
        for (BigInteger number : between) {
            makes(0, 0, number, ZERO, number);
            makes(3, 0, number, number, ONE);
            new Scene(check, "0, refused, if s or t is not below m: " + number).number(1, number)
                    .answers(0, desk -> desk.work(0, 0, 1, 2, 1))
                    .answers(0, desk -> desk.work(3, 0, 2, 1, 1)).andNothingElse();
        }
    }
}
