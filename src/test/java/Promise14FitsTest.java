import java.math.BigInteger;
import java.util.Random;

/** Promise 14: whether a signature fits, at all its edges, and what is refused. */
final class Promise14FitsTest {
    private static final BigInteger ONE = BigInteger.ONE;
    private static final BigInteger N = Model.N;

    /** Key, signature and digest as another program (OpenSSL) made them. */
    private static final String[][] MADE_ELSEWHERE = {
        {"0279122c83f9aa5c916f57a786812d831bbb89920b1eaa5791292d16d824f97e75",
            "3045022100bad71a6c35e7727f97ed6f416e5d6718afd697b893d19aaa594cdd2dd585c67a"
            + "02203299915d4d2f8cf37cef580158778519678d4e579d35bf4f9dbb19229bca6325",
            "b526aef1a341cfe6e5c377ed4c222888eeb81f913a107110a867e009c1758f24"},
        {"030caca54babdb05f7141305ad2da655e7d8892f4ba2bde3fb1304136060e35328",
            "3045022100ba424b9e2d03ae80f86eb860afa99cd337f0f0d06c609d0d1187dea0b7afd90d"
            + "02200775beba2ddfceeaf55a9c0e67be2284dd6214a5aefb7c353a2c3bf8947153f7",
            "84768ddee659efeafdeb972b55143141bc23b6e333c70e8b68d29774ab09a548"},
        {"0401ef52c9b5d6e3e75b0dd421143adcab80907b2c19b543569fab7d23f27e8a1f"
            + "70134a63745ea21b3144bb71ce02ea76e3d89d56f9499874431dfbc96ee1af1a",
            "3046022100acd6eb5b0ae3a084f115c4f9b4c25e04d7f56468f4f9d7a21a2e42d50b2fc1b7"
            + "022100ad4d023f0f20cb75c25b5ca04550dd6693b1c0a8668e8eae37098dbd5e9be9d6",
            "fb29a8d5309d7c35b180dbd78c63a455a5d1fb45149a3264c08f1aff43524beb"},
    };

    private final Check check = new Check();

    public static void main(String[] args) {
        Promise14FitsTest test = new Promise14FitsTest();
        test.checkMadeElsewhere();
        test.checkSigned();
        test.checkOutOfBounds();
        test.checkHighX();
        test.checkNoneMet();
        test.checkLikeAndOppositeKeys();
        test.checkSameRegisters();
        test.checkRefused();
        test.check.end();
    }

    private static void putHex(Bench bench, String hex) {
        for (int i = 0; i < hex.length(); i += 2) {
            bench.putAll(Integer.parseInt(hex.substring(i, i + 2), 16));
        }
    }

    private void checkMadeElsewhere() {
        for (String[] made : MADE_ELSEWHERE) {
            Bench bench = new Bench();
            putHex(bench, made[0]);
            check.due("key " + made[0], bench.desk.key(2), 1);
            putHex(bench, made[1]);
            check.due("signature " + made[1], bench.desk.signature(5, 4), 1);
            BigInteger digest = new BigInteger(made[2], 16);
            bench.write(0, digest);
            String before = bench.state();
            check.due("fits", bench.desk.fits(2, 5, 4, 0), 1);
            check.due("the state behind it", bench.state(), before);
            check.due("r and s changed about", bench.desk.fits(2, 4, 5, 0), 0);
            bench.write(0, digest.xor(ONE));
            check.due("another digest", bench.desk.fits(2, 5, 4, 0), 0);
            bench.write(0, digest);
            bench.desk.spot(1, 2, 0, 0);
            check.due("another key", bench.desk.fits(2, 5, 4, 0), 0);
        }
    }

    private void checkFits(Model.Pair key, BigInteger r, BigInteger s, BigInteger z, int due) {
        Bench bench = new Bench();
        bench.writePoint(1, key);
        bench.write(2, r);
        bench.write(3, s);
        bench.write(4, z);
        check.due("fits of r = " + r + ", s = " + s + ", z = " + z + ", key " + key,
                bench.desk.fits(1, 2, 3, 4), due);
    }

    /** Signs z with a secret k and a nonce, and hands r and s to the checks. */
    private void checkSigned() {
        Random random = new Random(14);
        for (int i = 0; i < 25; i++) {
            BigInteger k = i == 0 ? ONE : new BigInteger(256, random).mod(N);
            BigInteger nonce = i == 1 ? ONE : new BigInteger(256, random).mod(N);
            BigInteger[] digests = {new BigInteger(256, random), BigInteger.ZERO, N.subtract(ONE), N,
                Model.P, Bench.HIGHEST};
            BigInteger z = digests[i % digests.length];
            Model.Pair key = Model.times(k, Model.BASE);
            BigInteger r = Model.times(nonce, Model.BASE).x().mod(N);
            BigInteger s = z.add(r.multiply(k)).multiply(nonce.modInverse(N)).mod(N);
            checkFits(key, r, s, z, 1);
            checkFits(key, r, N.subtract(s), z, 1);
            checkFits(Model.minus(key), r, s, z, z.mod(N).signum() == 0 ? 1 : 0);
            checkFits(key, r.add(ONE), s, z, 0);
            checkFits(key, r, s.add(ONE), z, 0);
            checkFits(key, r, s, z.xor(BigInteger.TWO), 0);
            checkFits(null, r, s, z, 0);
            if (z.mod(N).add(N).bitLength() <= 256) {
                checkFits(key, r, s, z.mod(N).add(N), 1);
            }
        }
    }

    /** A low r and s have twins that N leaves alike but that are not below N. */
    private void checkOutOfBounds() {
        BigInteger low = BigInteger.TWO;
        Model.Pair key = keyFor(Model.lift(low, false), low, ONE, BigInteger.TEN);
        checkFits(key, low, ONE, BigInteger.TEN, 1);
        checkFits(key, low.add(N), ONE, BigInteger.TEN, 0);
        checkFits(key, low, ONE.add(N), BigInteger.TEN, 0);
        checkFits(key, low, N, BigInteger.TEN, 0);
        checkFits(key, N, ONE, BigInteger.TEN, 0);
        checkFits(key, BigInteger.ZERO, ONE, BigInteger.TEN, 0);
        checkFits(key, low, BigInteger.ZERO, BigInteger.TEN, 0);
        checkFits(key, Bench.HIGHEST, Bench.HIGHEST, BigInteger.TEN, 0);
        Model.Pair last = keyFor(Model.lift(low, true), low, N.subtract(ONE), BigInteger.TEN);
        checkFits(last, low, N.subtract(ONE), BigInteger.TEN, 1);
        checkHighestR();
    }

    /** The highest r below N that is an x. */
    private void checkHighestR() {
        BigInteger r = N.subtract(ONE);
        while (Model.lift(r, false) == null) {
            r = r.subtract(ONE);
        }
        checkFits(keyFor(Model.lift(r, false), r, BigInteger.TEN, ONE), r, BigInteger.TEN, ONE, 1);
    }

    /** The key with which r and s fit z, the point that is met being given. */
    private static Model.Pair keyFor(Model.Pair met, BigInteger r, BigInteger s, BigInteger z) {
        Model.Pair rest = Model.add(Model.times(s, met), Model.times(N.subtract(z.mod(N)), Model.BASE));
        return Model.times(r.modInverse(N), rest);
    }

    /** An x of N .. P - 1 leaves a low number by N. */
    private void checkHighX() {
        for (int r = 1; r < 40; r++) {
            BigInteger low = BigInteger.valueOf(r);
            Model.Pair met = Model.lift(N.add(low), r % 2 == 0);
            if (met == null) {
                continue;
            }
            BigInteger s = BigInteger.valueOf(1000L + r);
            Model.Pair key = keyFor(met, low, s, Model.BASE.y());
            checkFits(key, low, s, Model.BASE.y(), 1);
            checkFits(key, low.add(ONE), s, Model.BASE.y(), 0);
            checkFits(key, low.add(N), s, Model.BASE.y(), 0);
        }
    }

    /** z = - r * k makes NONE of the sum; a key that is NONE never fits, though the base alone would. */
    private void checkNoneMet() {
        checkFits(null, Model.BASE.x().mod(N), ONE, ONE, 0);
        checkFits(null, Model.BASE.x().mod(N), BigInteger.TEN, BigInteger.TEN, 0);
        for (int k = 1; k < 6; k++) {
            BigInteger secret = BigInteger.valueOf(k);
            BigInteger r = Model.BASE.x().mod(N);
            BigInteger z = r.multiply(secret).negate().mod(N);
            checkFits(Model.times(secret, Model.BASE), r, BigInteger.TEN, z, 0);
            checkFits(Model.times(secret, Model.BASE), r, ONE, z, 0);
        }
    }

    /** Where the two parts of the sum are like points, or the key is the base or its opposite. */
    private void checkLikeAndOppositeKeys() {
        Model.Pair[] keys = {Model.BASE, Model.minus(Model.BASE), Model.add(Model.BASE, Model.BASE)};
        for (Model.Pair key : keys) {
            for (int nonce = 1; nonce < 8; nonce++) {
                BigInteger k = key == keys[0] ? ONE : key == keys[1] ? N.subtract(ONE) : BigInteger.TWO;
                BigInteger r = Model.times(BigInteger.valueOf(nonce), Model.BASE).x().mod(N);
                BigInteger inverse = BigInteger.valueOf(nonce).modInverse(N);
                BigInteger[] digests = {r, r.multiply(k), BigInteger.TEN, BigInteger.ZERO};
                for (BigInteger z : digests) {
                    BigInteger s = z.add(r.multiply(k)).multiply(inverse).mod(N);
                    checkFits(key, r, s, z.mod(N), s.signum() == 0 ? 0 : 1);
                }
            }
        }
    }

    /** r, s and z may be one register. */
    private void checkSameRegisters() {
        Model.Pair two = Model.add(Model.BASE, Model.BASE);
        BigInteger r = two.x().mod(N);
        Bench bench = new Bench();
        bench.write(0, r);
        bench.desk.spot(1, 0, 0, 0);
        check.due("1 + 1 times the base", bench.desk.fits(0, 0, 0, 0), 1);
        bench.writePoint(0, two);
        check.due("1 + 2 times the base, r not being its x", bench.desk.fits(0, 0, 0, 0), 0);
        bench.write(1, BigInteger.ZERO);
        check.due("0 + 2 times the base", bench.desk.fits(0, 0, 0, 1), 1);
    }

    private void checkRefused() {
        Bench bench = new Bench();
        bench.writePoint(0, Model.BASE);
        bench.write(0, BigInteger.TEN);
        String before = bench.state();
        for (int none : Bench.NO_SPOTS) {
            check.due("fits with no q " + none, bench.desk.fits(none, 0, 1, 2), -1);
        }
        for (int q = 0; q < 2; q++) {
            for (int none : Bench.NO_REGISTERS) {
                check.due("fits with no r " + none, bench.desk.fits(q, none, 1, 2), -1);
                check.due("fits with no s " + none, bench.desk.fits(q, 0, none, 2), -1);
                check.due("fits with no z " + none, bench.desk.fits(q, 0, 1, none), -1);
            }
        }
        check.due("the state behind refused calls", bench.state(), before);
    }
}
