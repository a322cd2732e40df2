import java.math.BigInteger;

/** The edges of promise 6, one test for each of its sentences. */
final class Edges06RootTest {
    private static final BigInteger ONE = BigInteger.ONE;
    private static final BigInteger P = Model.P;

    private final Check check = new Check();

    public static void main(String[] args) {
        Edges06RootTest test = new Edges06RootTest();
        test.theEvenOneOfTheTwo();
        test.zeroOfZero();
        test.sameRegister();
        test.refusedIfThereIsNone();
        test.refusedIfSIsNotBelowP();
        test.refusedForNoSuchRegister();
        test.check.end();
    }

    private void hasRoot(String sentence, BigInteger square, BigInteger due) {
        new Scene(check, sentence + ": " + square).number(4, square)
                .answers(1, desk -> desk.root(0, 4)).becomes(0, due).andNothingElse();
    }

    /** Of 1 and P - 1 the higher one is even, of 2 and P - 2 the lower one. */
    private void theEvenOneOfTheTwo() {
        String sentence = "the even one of the two numbers below P";
        hasRoot(sentence, ONE, P.subtract(ONE));
        hasRoot(sentence, BigInteger.valueOf(4), BigInteger.TWO);
        hasRoot(sentence, BigInteger.valueOf(9), P.subtract(BigInteger.valueOf(3)));
        hasRoot(sentence, BigInteger.valueOf(16), BigInteger.valueOf(4));
        for (int bit = 1; bit < 256; bit += 17) {
            BigInteger even = ONE.shiftLeft(bit);
            hasRoot(sentence, even.multiply(even).mod(P), even);
            BigInteger odd = even.add(ONE);
            hasRoot(sentence, odd.multiply(odd).mod(P), P.subtract(odd));
        }
    }

    private void zeroOfZero() {
        hasRoot("(0 of 0)", BigInteger.ZERO, BigInteger.ZERO);
    }

    private void sameRegister() {
        new Scene(check, "Register r becomes .. whose square is register s, r = s").number(0, 4).number(7, 1)
                .answers(1, desk -> desk.root(0, 0)).answers(1, desk -> desk.root(7, 7))
                .becomes(0, 2).becomes(7, P.subtract(ONE)).andNothingElse();
    }

    private void isRefused(String sentence, BigInteger number) {
        new Scene(check, sentence + ": " + number).number(4, number)
                .answers(0, desk -> desk.root(0, 4)).answers(0, desk -> desk.root(4, 4)).andNothingElse();
    }

    /** P leaves 3 by 4, so what has a root has none with its sign changed. */
    private void refusedIfThereIsNone() {
        String sentence = "0, refused, if there is none";
        isRefused(sentence, BigInteger.valueOf(3));
        isRefused(sentence, BigInteger.valueOf(5));
        isRefused(sentence, BigInteger.valueOf(7));
        isRefused(sentence, P.subtract(ONE));
        isRefused(sentence, P.subtract(BigInteger.valueOf(4)));
        for (int bit = 1; bit < 256; bit += 17) {
            BigInteger root = ONE.shiftLeft(bit);
            isRefused(sentence, root.multiply(root).negate().mod(P));
        }
    }

    /** P leaves 0, 1 and 4 of the first three, which have roots. */
    private void refusedIfSIsNotBelowP() {
        String sentence = "0, refused, if s is not below P";
        isRefused(sentence, P);
        isRefused(sentence, P.add(ONE));
        isRefused(sentence, P.add(BigInteger.valueOf(4)));
        isRefused(sentence, Bench.HIGHEST);
    }

    private void refusedForNoSuchRegister() {
        for (int none : Bench.NO_REGISTERS) {
            new Scene(check, "0, refused, if no such register: " + none).number(4, 4).number(0, 4).number(7, 4)
                    .answers(0, desk -> desk.root(none, 4))
                    .answers(0, desk -> desk.root(4, none))
                    .answers(0, desk -> desk.root(none, none)).andNothingElse();
        }
    }
}
