import java.math.BigInteger;

/** The edges that 'Terms' names of what FITS, one test for each sentence. */
final class EdgesFitsTest {
    private static final BigInteger ZERO = BigInteger.ZERO;
    private static final BigInteger ONE = BigInteger.ONE;
    private static final BigInteger TEN = BigInteger.TEN;
    private static final BigInteger N = Model.N;
    private static final Model.Pair BASE = Model.BASE;

    private final Check check = new Check();

    public static void main(String[] args) {
        EdgesFitsTest test = new EdgesFitsTest();
        test.theKeyIsNotNone();
        test.rIs1ToNLess1();
        test.sIs1ToNLess1();
        test.zIsAnyNumber();
        test.dividedModuloN();
        test.thePointIsNotNone();
        test.xLeavesByNWhatRIs();
        test.likePointsAreSummed();
        test.check.end();
    }

    private void fits(String sentence, int due, Model.Pair key, BigInteger r, BigInteger s, BigInteger z) {
        new Scene(check, sentence + ": r = " + r + ", s = " + s + ", z = " + z)
                .point(2, key).number(7, r).number(0, s).number(3, z)
                .answers(due, desk -> desk.fits(2, 7, 0, 3)).andNothingElse();
    }

    /** The key with which r and s fit z, the point that is met being given. */
    private static Model.Pair keyFor(Model.Pair met, BigInteger r, BigInteger s, BigInteger z) {
        Model.Pair rest = Model.add(Model.times(s, met), Model.times(N.subtract(z.mod(N)), BASE));
        return Model.times(r.modInverse(N), rest);
    }

    /** With s = z the base alone is met, and its x is r: only the key is wrong. */
    private void theKeyIsNotNone() {
        String sentence = "a key's point Q (not NONE)";
        fits(sentence, 0, null, BASE.x(), ONE, ONE);
        fits(sentence, 0, null, BASE.x(), TEN, TEN);
        fits(sentence, 0, null, ZERO, ZERO, ZERO);
        fits(sentence, 1, Model.times(N.subtract(TEN).multiply(BASE.x().modInverse(N)).mod(N), BASE),
                BASE.x(), ONE, TEN.add(ONE));
    }

    /** The lowest and the highest r that are an x, and twins that N leaves alike. */
    private void rIs1ToNLess1() {
        String sentence = "if r and s are 1 .. N - 1";
        Model.Pair low = keyFor(Model.lift(ONE, false), ONE, TEN, TEN);
        fits(sentence, 1, low, ONE, TEN, TEN);
        fits(sentence, 0, low, ONE.add(N), TEN, TEN);
        fits(sentence, 0, low, ZERO, TEN, TEN);
        fits(sentence, 0, low, N, TEN, TEN);
        fits(sentence, 0, low, Bench.HIGHEST, TEN, TEN);
        BigInteger r = N.subtract(ONE);
        while (Model.lift(r, false) == null) {
            r = r.subtract(ONE);
        }
        fits(sentence, 1, keyFor(Model.lift(r, false), r, TEN, ONE), r, TEN, ONE);
    }

    private void sIs1ToNLess1() {
        String sentence = "if r and s are 1 .. N - 1";
        Model.Pair met = Model.lift(BigInteger.TWO, true);
        Model.Pair first = keyFor(met, BigInteger.TWO, ONE, TEN);
        fits(sentence, 1, first, BigInteger.TWO, ONE, TEN);
        fits(sentence, 0, first, BigInteger.TWO, ONE.add(N), TEN);
        fits(sentence, 0, first, BigInteger.TWO, ZERO, TEN);
        fits(sentence, 0, first, BigInteger.TWO, N, TEN);
        fits(sentence, 0, first, BigInteger.TWO, Bench.HIGHEST, TEN);
        fits(sentence, 0, first, ZERO, ZERO, TEN);
        fits(sentence, 0, first, N, N, TEN);
        Model.Pair last = keyFor(met, BigInteger.TWO, N.subtract(ONE), TEN);
        fits(sentence, 1, last, BigInteger.TWO, N.subtract(ONE), TEN);
    }

    /** N and more is as good as what N leaves of it. */
    private void zIsAnyNumber() {
        String sentence = "fits a number z, with / modulo N";
        BigInteger[] numbers = {ZERO, ONE, N.subtract(ONE), N, N.add(ONE), Model.P, Bench.HIGHEST};
        Model.Pair met = Model.times(BigInteger.valueOf(77), BASE);
        BigInteger r = met.x().mod(N);
        for (BigInteger z : numbers) {
            Model.Pair key = keyFor(met, r, TEN, z);
            fits(sentence, 1, key, r, TEN, z);
            fits(sentence, 0, key, r, TEN, z.xor(BigInteger.TWO));
            BigInteger twin = z.compareTo(N) < 0 ? z.add(N) : z.subtract(N);
            if (twin.bitLength() <= 256) {
                fits(sentence, 1, key, r, TEN, twin);
            }
        }
    }

    /** Were / modulo P, or r and s changed about, these would not fit. */
    private void dividedModuloN() {
        String sentence = "(z / s) times the base + (r / s) times Q, with / modulo N";
        BigInteger secret = BigInteger.valueOf(1234567);
        BigInteger nonce = N.subtract(BigInteger.valueOf(7654321));
        Model.Pair key = Model.times(secret, BASE);
        BigInteger r = Model.times(nonce, BASE).x().mod(N);
        BigInteger z = BASE.y();
        BigInteger s = z.add(r.multiply(secret)).multiply(nonce.modInverse(N)).mod(N);
        fits(sentence, 1, key, r, s, z);
        fits(sentence, 1, key, r, N.subtract(s), z);
        fits(sentence, 0, key, s, r, z);
        fits(sentence, 0, Model.minus(key), r, s, z);
        fits(sentence, 0, key, r.add(ONE), s, z);
        fits(sentence, 0, key, r, s.add(ONE), z);
    }

    /** z = - r * k, k times the base being the key. */
    private void thePointIsNotNone() {
        String sentence = "and the point is not NONE";
        for (int k = 1; k < 4; k++) {
            BigInteger secret = BigInteger.valueOf(k);
            BigInteger[] numbers = {ONE, BASE.x().mod(N), N.subtract(ONE)};
            for (BigInteger r : numbers) {
                BigInteger z = r.multiply(secret).negate().mod(N);
                fits(sentence, 0, Model.times(secret, BASE), r, ONE, z);
                fits(sentence, 0, Model.times(secret, BASE), r, TEN, z);
            }
        }
    }

    /** An x of N .. P - 1 leaves a low number, which r is; the x itself is no r. */
    private void xLeavesByNWhatRIs() {
        String sentence = "its x leaves by N what r is";
        int found = 0;
        for (int i = 1; i < 60; i++) {
            BigInteger r = BigInteger.valueOf(i);
            Model.Pair met = Model.lift(N.add(r), i % 2 == 0);
            if (met != null) {
                found++;
                Model.Pair key = keyFor(met, r, TEN, BASE.y());
                fits(sentence, 1, key, r, TEN, BASE.y());
                fits(sentence, 0, key, r.add(N), TEN, BASE.y());
                fits(sentence, 0, key, r.add(ONE), TEN, BASE.y());
            }
        }
        check.due("there are such x", found > 0, true);
        BigInteger last = Model.P.subtract(BigInteger.valueOf(3));
        Model.Pair met = Model.lift(last, false);
        fits(sentence, 1, keyFor(met, last.subtract(N), TEN, ONE), last.subtract(N), TEN, ONE);
    }

    /** Both parts of the sum are like points, or one of them is NONE, as z is 0. */
    private void likePointsAreSummed() {
        String sentence = "(z / s) times the base + (r / s) times Q, like ones";
        BigInteger two = Scene.TWO_BASES.x().mod(N);
        fits(sentence, 1, BASE, two, two, two);
        BigInteger one = BASE.x().mod(N);
        fits("(z / s) times the base, being NONE", 1, BASE, one, one, ZERO);
        fits("(z / s) times the base, being NONE", 1, BASE, one, one, N);
        fits("(z / s) times the base, being NONE", 1, Model.minus(BASE), one, one, ZERO);
    }
}
