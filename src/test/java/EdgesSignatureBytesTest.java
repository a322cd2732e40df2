import java.math.BigInteger;
import java.util.Arrays;

/** The edges that 'Terms' names of signatures as bytes, one test for each sentence. */
final class EdgesSignatureBytesTest {
    private static final int[] FIVE = {5};

    private final Check check = new Check();

    public static void main(String[] args) {
        EdgesSignatureBytesTest test = new EdgesSignatureBytesTest();
        test.theFirstByteIs48();
        test.theLengthIsOfAllBehindIt();
        test.eachNumberStartsWith2();
        test.thereAreTwoNumbers();
        test.eachNumbersLengthIs1To33();
        test.eachNumberHasSoManyBytes();
        test.eachNumberIsBelow2To256();
        test.theHighestByteFirst();
        test.theFirstByteIsBelow128();
        test.noZeroTooMany();
        test.nothingBehind();
        test.noSignatureIsCutOff();
        test.check.end();
    }

    /** The frame round two rows of bytes, whatever they are. */
    private static int[] framed(int[] r, int[] s) {
        int[] all = new int[6 + r.length + s.length];
        all[0] = 48;
        all[1] = all.length - 2;
        all[2] = 2;
        all[3] = r.length;
        System.arraycopy(r, 0, all, 4, r.length);
        all[4 + r.length] = 2;
        all[5 + r.length] = s.length;
        System.arraycopy(s, 0, all, 6 + r.length, s.length);
        return all;
    }

    private static int[] row(int length, int... first) {
        return Arrays.copyOf(first, length);
    }

    private void isSignature(String sentence, BigInteger r, BigInteger s, int... bytes) {
        new Scene(check, sentence + " " + Arrays.toString(bytes)).hand(bytes)
                .answers(1, desk -> desk.signature(3, 6)).becomes(3, r).becomes(6, s)
                .handBecomes().andNothingElse();
    }

    private void isNone(String sentence, int... bytes) {
        new Scene(check, sentence + " " + Arrays.toString(bytes)).hand(bytes)
                .answers(0, desk -> desk.signature(3, 6)).handBecomes().andNothingElse();
    }

    /** A number's row of bytes, in each of the two places. */
    private void isNumber(String sentence, BigInteger number, int... row) {
        isSignature(sentence, number, Bench.big(5), framed(row, FIVE));
        isSignature(sentence, Bench.big(5), number, framed(FIVE, row));
        isSignature(sentence, number, number, framed(row, row));
    }

    private void isNoNumber(String sentence, int... row) {
        isNone(sentence, framed(row, FIVE));
        isNone(sentence, framed(FIVE, row));
        isNone(sentence, framed(row, row));
    }

    private void theFirstByteIs48() {
        isSignature("the bytes 48", Bench.big(5), Bench.big(6), 48, 6, 2, 1, 5, 2, 1, 6);
        int[] others = {0, 2, 47, 49, 176, 255};
        for (int other : others) {
            isNone("the bytes 48", other, 6, 2, 1, 5, 2, 1, 6);
        }
    }

    private void theLengthIsOfAllBehindIt() {
        int[] others = {0, 1, 5, 7, 8, 128, 129, 134, 255};
        for (int other : others) {
            isNone("a length (of all behind it)", 48, other, 2, 1, 5, 2, 1, 6);
        }
        isNone("a length (of all behind it), in one byte", 48, 129, 6, 2, 1, 5, 2, 1, 6);
    }

    private void eachNumberStartsWith2() {
        int[] others = {0, 1, 3, 48, 130, 255};
        for (int other : others) {
            isNone("twice 2", 48, 6, other, 1, 5, 2, 1, 6);
            isNone("twice 2", 48, 6, 2, 1, 5, other, 1, 6);
        }
    }

    private void thereAreTwoNumbers() {
        isNone("twice", 48, 0);
        isNone("twice", 48, 3, 2, 1, 5);
        isNone("twice", 48, 9, 2, 1, 5, 2, 1, 6, 2, 1, 7);
    }

    private void eachNumbersLengthIs1To33() {
        String sentence = "a length 1 .. 33";
        isNumber(sentence, Bench.big(127), 127);
        isNumber(sentence, BigInteger.ONE.shiftLeft(255), row(33, 0, 128));
        isNoNumber(sentence);
        isNoNumber(sentence, row(34, 0, 128));
        isNoNumber(sentence, row(34, 1));
        isNoNumber(sentence, row(34, 0, 0, 128));
        isNone(sentence, 48, 6, 2, 0, 5, 2, 1, 6);
        isNone(sentence, 48, 4, 2, 0, 2, 0);
        isNone(sentence, 48, 6, 2, 129, 5, 2, 1, 6);
        isNone(sentence, 48, 6, 2, 255, 5, 2, 1, 6);
    }

    private void eachNumberHasSoManyBytes() {
        String sentence = "and so many bytes";
        isNone(sentence, 48, 6, 2, 2, 5, 2, 1, 6);
        isNone(sentence, 48, 6, 2, 3, 5, 2, 1, 6);
        isNone(sentence, 48, 6, 2, 4, 5, 2, 1, 6);
        isNone(sentence, 48, 6, 2, 5, 5, 2, 1, 6);
        isNone(sentence, 48, 6, 2, 33, 5, 2, 1, 6);
        isNone(sentence, 48, 6, 2, 1, 5, 2, 2, 6);
        isNone(sentence, 48, 6, 2, 1, 5, 2, 33, 6);
        isNone(sentence, 48, 5, 2, 1, 5, 2, 1);
        isNone(sentence, 48, 4, 2, 1, 5, 2);
        isNone(sentence, 48, 2, 2, 1);
        isNone(sentence, 48, 1, 2);
    }

    /** Of 33 bytes the first one is 0, and of 32 bytes the highest number is 2 ^ 255 - 1. */
    private void eachNumberIsBelow2To256() {
        String sentence = "a number below 2 ^ 256";
        int[] highest = new int[33];
        Arrays.fill(highest, 1, 33, 255);
        isNumber(sentence, Bench.HIGHEST, highest);
        isNumber(sentence, BigInteger.ZERO, 0);
        isNumber(sentence, Model.N, row33(Model.N));
        isNumber(sentence, Model.P, row33(Model.P));
        isNoNumber(sentence, row(33, 1));
        isNoNumber(sentence, row(33, 1, 128));
        isNoNumber(sentence, row(33, 127, 255));
    }

    private static int[] row33(BigInteger number) {
        int[] row = new int[33];
        System.arraycopy(Scene.bytesOf(number, 32), 0, row, 1, 32);
        return row;
    }

    private void theHighestByteFirst() {
        String sentence = "the highest byte first";
        isNumber(sentence, Bench.big(258), 1, 2);
        isNumber(sentence, Bench.big(0x7F00000000000001L), 127, 0, 0, 0, 0, 0, 0, 1);
        isNumber(sentence, BigInteger.ONE.shiftLeft(248), row(32, 1));
        for (int length = 1; length <= 32; length++) {
            BigInteger number = Bench.big(127).shiftLeft(8 * (length - 1));
            isNumber(sentence, number, row(length, 127));
        }
    }

    private void theFirstByteIsBelow128() {
        String sentence = "the first byte below 128";
        isNumber(sentence, Bench.big(127), 127);
        isNumber(sentence, Bench.big(0x7FFF), 127, 255);
        isNoNumber(sentence, 128);
        isNoNumber(sentence, 255);
        isNoNumber(sentence, 128, 0);
        isNoNumber(sentence, 255, 255);
        isNoNumber(sentence, row(32, 128));
        isNoNumber(sentence, row(33, 128));
        isNoNumber(sentence, row(33, 255));
    }

    private void noZeroTooMany() {
        String sentence = "and 0 only if there is one byte, or the second one is 128 or more";
        isNumber(sentence, BigInteger.ZERO, 0);
        isNumber(sentence, Bench.big(128), 0, 128);
        isNumber(sentence, Bench.big(255), 0, 255);
        isNumber(sentence, Bench.big(0x8000), 0, 128, 0);
        isNoNumber(sentence, 0, 0);
        isNoNumber(sentence, 0, 1);
        isNoNumber(sentence, 0, 127);
        isNoNumber(sentence, 0, 127, 255);
        isNoNumber(sentence, 0, 0, 128);
        isNoNumber(sentence, row(32, 0, 127));
        isNoNumber(sentence, row(33, 0, 127));
        isNoNumber(sentence, row(33));
    }

    private void nothingBehind() {
        String sentence = "nothing behind";
        isNone(sentence, 48, 6, 2, 1, 5, 2, 1, 6, 0);
        isNone(sentence, 48, 7, 2, 1, 5, 2, 1, 6, 0);
        isNone(sentence, 48, 6, 2, 1, 5, 2, 1, 6, 48);
        int[] highest = new int[33];
        Arrays.fill(highest, 1, 33, 255);
        int[] longest = framed(highest, highest);
        check.due("the longest signature's length", longest.length, 72);
        for (int length = 73; length <= 100; length++) {
            int[] longer = Arrays.copyOf(longest, length);
            isNone(sentence, longer);
            longer[1] = length - 2;
            isNone(sentence, longer);
        }
    }

    /** What has been taken before lies no longer behind the bytes that are put now. */
    private void noSignatureIsCutOff() {
        int[] highest = new int[33];
        Arrays.fill(highest, 1, 33, 255);
        int[] longest = framed(highest, highest);
        for (int length = 0; length < longest.length; length++) {
            int[] start = Arrays.copyOf(longest, length);
            new Scene(check, "so many bytes, of which here are " + length)
                    .hand(longest).answers(1, desk -> desk.signature(3, 6))
                    .becomes(3, Bench.HIGHEST).becomes(6, Bench.HIGHEST)
                    .hand(start).answers(0, desk -> desk.signature(0, 1)).handBecomes().andNothingElse();
            start = length < 2 ? start : withLength(start);
            isNone("so many bytes, of which here are " + length, start);
        }
    }

    private static int[] withLength(int[] bytes) {
        int[] told = bytes.clone();
        told[1] = bytes.length - 2;
        return told;
    }
}
