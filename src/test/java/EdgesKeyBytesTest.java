import java.math.BigInteger;
import java.util.Arrays;

/** The edges that 'Terms' names of keys as bytes, one test for each sentence. */
final class EdgesKeyBytesTest {
    private static final BigInteger ONE = BigInteger.ONE;
    private static final BigInteger P = Model.P;
    private static final Model.Pair BASE = Model.BASE;

    private final Check check = new Check();

    public static void main(String[] args) {
        EdgesKeyBytesTest test = new EdgesKeyBytesTest();
        test.shortKeysStartWith2Or3();
        test.xIsTheHighestByteFirst();
        test.yIsEvenFor2AndOddFor3();
        test.shortKeysNeedAPoint();
        test.shortKeysHaveXBelowP();
        test.wholeKeysStartWith4();
        test.wholeKeysAreBelowP();
        test.wholeKeysAreOfAPoint();
        test.keysAre33Or65Bytes();
        test.check.end();
    }

    private static int[] join(int first, BigInteger x, BigInteger y) {
        int[] all = Arrays.copyOf(Scene.keyOf(first, x), 65);
        System.arraycopy(Scene.bytesOf(y, 32), 0, all, 33, 32);
        return all;
    }

    private void isKey(String sentence, Model.Pair due, int... bytes) {
        for (int q = 0; q < 2; q++) {
            int spot = q;
            new Scene(check, sentence).hand(bytes).answers(1, desk -> desk.key(spot))
                    .spotBecomes(q, due).handBecomes().andNothingElse();
        }
    }

    /** On a spot with a point and on one that is NONE: both stay, and the bytes are none then. */
    private void isNoKey(String sentence, int... bytes) {
        for (int q = 0; q < 2; q++) {
            int spot = q;
            new Scene(check, sentence).hand(bytes).answers(0, desk -> desk.key(spot))
                    .handBecomes().andNothingElse();
        }
    }

    private void shortKeysStartWith2Or3() {
        for (int first = 0; first < 256; first++) {
            String sentence = "A KEY are 33 bytes: 2 or 3, and x: here " + first;
            if (first == 2 || first == 3) {
                isKey(sentence, Model.lift(BASE.x(), first == 3), Scene.keyOf(first, BASE.x()));
            } else {
                isNoKey(sentence, Scene.keyOf(first, BASE.x()));
            }
        }
    }

    /** A low x has all its zeros before it. */
    private void xIsTheHighestByteFirst() {
        String sentence = "x (32 bytes, the highest first)";
        int[] low = new int[33];
        low[0] = 2;
        low[32] = 1;
        isKey(sentence, Model.lift(ONE, false), low);
        BigInteger x = ONE.shiftLeft(248);
        while (Model.lift(x, false) == null) {
            x = x.shiftLeft(1);
        }
        int[] high = new int[33];
        high[0] = 2;
        high[1] = x.shiftRight(248).intValue();
        isKey(sentence, Model.lift(x, false), high);
    }

    private void yIsEvenFor2AndOddFor3() {
        String sentence = "whose y is even (2) or odd (3)";
        for (int k = 1; k < 9; k++) {
            Model.Pair point = Model.times(BigInteger.valueOf(k), BASE);
            boolean odd = point.y().testBit(0);
            isKey(sentence, point, Scene.keyOf(odd ? 3 : 2, point.x()));
            isKey(sentence, Model.minus(point), Scene.keyOf(odd ? 2 : 3, point.x()));
        }
    }

    private void shortKeysNeedAPoint() {
        BigInteger[] noX = {BigInteger.ZERO, BigInteger.valueOf(5), BigInteger.valueOf(7), P.subtract(ONE)};
        for (BigInteger x : noX) {
            isNoKey("which stands for the point with that x, here none", Scene.keyOf(2, x));
            isNoKey("which stands for the point with that x, here none", Scene.keyOf(3, x));
        }
    }

    /** x = 1 and x = 2 are a point's, but P + 1 and P + 2 are no numbers of points. */
    private void shortKeysHaveXBelowP() {
        BigInteger[] tooHigh = {P, P.add(ONE), P.add(BigInteger.TWO), Bench.HIGHEST};
        for (BigInteger x : tooHigh) {
            isNoKey("the point with that x, points being below P", Scene.keyOf(2, x));
            isNoKey("the point with that x, points being below P", Scene.keyOf(3, x));
        }
        BigInteger highest = P.subtract(BigInteger.valueOf(3));
        isKey("the point with that x, the highest there is", Model.lift(highest, false), Scene.keyOf(2, highest));
        isKey("the point with that x, the highest there is", Model.lift(highest, true), Scene.keyOf(3, highest));
    }

    private void wholeKeysStartWith4() {
        for (int first = 0; first < 256; first++) {
            String sentence = "or 65 bytes: 4, x and y: here " + first;
            if (first == 4) {
                isKey(sentence, BASE, join(first, BASE.x(), BASE.y()));
                isKey(sentence, Model.minus(BASE), join(first, BASE.x(), P.subtract(BASE.y())));
            } else {
                isNoKey(sentence, join(first, BASE.x(), BASE.y()));
            }
        }
    }

    private void wholeKeysAreBelowP() {
        String sentence = "4, x and y, both below P";
        BigInteger y = Model.lift(ONE, false).y();
        isKey(sentence, Model.lift(ONE, false), join(4, ONE, y));
        isNoKey(sentence, join(4, ONE.add(P), y));
        isNoKey(sentence, join(4, P, y));
        isNoKey(sentence, join(4, ONE, P));
        isNoKey(sentence, join(4, Bench.HIGHEST, Bench.HIGHEST));
        Model.Pair low = lowestY();
        isKey(sentence, low, join(4, low.x(), low.y()));
        isNoKey(sentence, join(4, low.x(), low.y().add(P)));
    }

    /** The point with the lowest y; P leaves 7 by 9, so a cube's root is its power (P + 2) / 9. */
    private static Model.Pair lowestY() {
        BigInteger power = P.add(BigInteger.TWO).divide(BigInteger.valueOf(9));
        for (int y = 1; y < 1000; y++) {
            BigInteger x = BigInteger.valueOf((long) y * y - 7).mod(P).modPow(power, P);
            if (Model.isPoint(x, BigInteger.valueOf(y))) {
                return new Model.Pair(x, BigInteger.valueOf(y));
            }
        }
        throw new IllegalStateException("no low y");
    }

    private void wholeKeysAreOfAPoint() {
        String sentence = "4, x and y, of a point";
        BigInteger x = BASE.x();
        BigInteger y = BASE.y();
        isNoKey(sentence, join(4, x, y.add(ONE)));
        isNoKey(sentence, join(4, x.add(ONE), y));
        isNoKey(sentence, join(4, y, x));
        isNoKey(sentence, join(4, BigInteger.ZERO, BigInteger.ZERO));
        for (int at = 1; at < 65; at++) {
            int[] bytes = join(4, x, y);
            bytes[at] ^= 1;
            isNoKey(sentence, bytes);
        }
    }

    /** Of every length that the hand can have, none beside the two is a key. */
    private void keysAre33Or65Bytes() {
        for (int length = 0; length <= 100; length++) {
            for (int first = 2; first <= 4; first++) {
                int[] bytes = Arrays.copyOf(join(first, BASE.x(), BASE.y()), length);
                String sentence = "33 bytes .. or 65 bytes: here " + length;
                if (length == 33 && first < 4) {
                    isKey(sentence, Model.lift(BASE.x(), first == 3), bytes);
                } else if (length == 65 && first == 4) {
                    isKey(sentence, BASE, bytes);
                } else {
                    isNoKey(sentence, bytes);
                }
            }
        }
    }
}
