import java.math.BigInteger;
import java.util.Arrays;

/** The edges of promise 11, one test for each of its sentences. */
final class Edges11PutTest {
    private static final int[] KEY = Scene.keyOf(Model.BASE);

    private final Check check = new Check();

    public static void main(String[] args) {
        Edges11PutTest test = new Edges11PutTest();
        test.theLowestNBytes();
        test.theHighestOfThemFirst();
        test.behindTheBytesInHand();
        test.falseIfNIsNot1To8();
        test.upTo100();
        test.falseIfThereWouldBeMoreThan100();
        test.roomIsThereAgain();
        test.check.end();
    }

    private static long longOf(int[] bytes, int from, int to) {
        long value = 0;
        for (int i = from; i < to; i++) {
            value = value << 8 | bytes[i];
        }
        return value;
    }

    /** Bytes of v above the lowest n are all 1 bits, then all 0 bits. */
    private void theLowestNBytes() {
        for (int i = 1; i <= 8; i++) {
            int n = i;
            long low = longOf(KEY, 0, n);
            long above = n == 8 ? 0 : -1L << 8 * n;
            new Scene(check, "The lowest n bytes of v: " + n).hand()
                    .answers(true, desk -> desk.put(low | above, n))
                    .handBecomes(Arrays.copyOf(KEY, n)).andNothingElse();
            new Scene(check, "The lowest n bytes of v: " + n).hand()
                    .answers(true, desk -> desk.put(low, n))
                    .handBecomes(Arrays.copyOf(KEY, n)).andNothingElse();
        }
    }

    /** A signature's eight bytes in one call, and each byte's highest and lowest values in a number. */
    private void theHighestOfThemFirst() {
        String sentence = "the highest of them first";
        new Scene(check, sentence).hand().answers(true, desk -> desk.put(0x3006020105020106L, 8))
                .handBecomes(48, 6, 2, 1, 5, 2, 1, 6).andNothingElse();
        new Scene(check, sentence).hand(48, 37, 2, 32)
                .answers(true, desk -> desk.put(0x7F80FF00FF807F01L, 8))
                .answers(true, desk -> desk.put(-1, 8))
                .answers(true, desk -> desk.put(Long.MIN_VALUE, 8))
                .answers(true, desk -> desk.put(Long.MAX_VALUE, 8))
                .answers(true, desk -> desk.put(0x020109, 3))
                .answers(1, desk -> desk.signature(0, 1)).handBecomes()
                .becomes(0, new BigInteger("7F80FF00FF807F01FFFFFFFFFFFFFFFF80000000000000007FFFFFFFFFFFFFFF", 16))
                .becomes(1, 9).andNothingElse();
    }

    private void behindTheBytesInHand() {
        for (int i = 0; i < 9; i++) {
            int before = i;
            new Scene(check, "come behind the bytes in hand: " + i).hand(Arrays.copyOf(KEY, before))
                    .answers(true, desk -> desk.put(KEY[before], 1))
                    .answers(true, desk -> desk.put(longOf(KEY, before + 1, before + 9), 8))
                    .answers(true, desk -> desk.put(longOf(KEY, before + 9, before + 12), 3))
                    .handBecomes(Arrays.copyOf(KEY, before + 12)).andNothingElse();
        }
    }

    /** With bytes in hand, with none, and with no room for more. */
    private void falseIfNIsNot1To8() {
        int[] wrong = {0, -1, -8, 9, 10, 16, 100, Integer.MIN_VALUE, Integer.MAX_VALUE};
        int[][] hands = {{}, {4}, Arrays.copyOf(KEY, 64), new int[99], new int[100]};
        for (int n : wrong) {
            for (int[] hand : hands) {
                new Scene(check, "false if n is not 1 .. 8: " + n).hand(hand)
                        .answers(false, desk -> desk.put(0x0102030405060708L, n))
                        .answers(false, desk -> desk.put(-1, n)).andNothingElse();
            }
        }
    }

    private void upTo100() {
        for (int i = 1; i <= 8; i++) {
            int n = i;
            new Scene(check, "there would be just 100, by " + n).hand(new int[100 - n])
                    .answers(true, desk -> desk.put(-1, n))
                    .handBecomes(new int[100]).andNothingElse();
        }
    }

    /** A put that does not fit whole leaves all of its bytes out: there is as much room as before. */
    private void falseIfThereWouldBeMoreThan100() {
        for (int i = 1; i <= 8; i++) {
            int n = i;
            for (int count = 101 - n; count <= 100; count++) {
                int[] hand = new int[count];
                Arrays.fill(hand, 7);
                new Scene(check, "false if there would be more than 100: " + n + " behind " + count).hand(hand)
                        .answers(false, desk -> desk.put(-1, n))
                        .answers(false, desk -> desk.put(0, n)).andNothingElse();
            }
        }
    }

    private void roomIsThereAgain() {
        String sentence = "more than 100, but the bytes in hand are none behind a key or signature";
        new Scene(check, sentence).hand(new int[100]).answers(false, desk -> desk.put(4, 1))
                .answers(0, desk -> desk.key(0)).answers(true, desk -> desk.put(4, 1)).handBecomes(4).andNothingElse();
        new Scene(check, sentence).hand(new int[100]).answers(false, desk -> desk.put(4, 1))
                .answers(0, desk -> desk.signature(0, 1)).answers(true, desk -> desk.put(4, 1)).handBecomes(4)
                .andNothingElse();
    }
}
