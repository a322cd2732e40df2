/**
 * The edges of promise 13, one test for each of its sentences; the bytes' own are in
 * EdgesSignatureBytesTest.
 */
final class Edges13SignatureTest {
    private static final int[] SIGNATURE = {48, 6, 2, 1, 5, 2, 1, 6};

    private final Check check = new Check();

    public static void main(String[] args) {
        Edges13SignatureTest test = new Edges13SignatureTest();
        test.registersBecomeItsNumbers();
        test.theNumbersNeedNotFitAnything();
        test.theBytesAreNoneThen();
        test.zeroIfTheyAreNone();
        test.zeroForNoBytes();
        test.refusedForNoSuchRegisters();
        test.refusedIfRIsS();
        test.check.end();
    }

    private void registersBecomeItsNumbers() {
        for (int s = 1; s < 8; s++) {
            int other = s;
            new Scene(check, "registers r and s become its numbers: 1").hand(SIGNATURE)
                    .answers(1, desk -> desk.signature(0, other)).becomes(0, 5).becomes(s, 6)
                    .handBecomes().andNothingElse();
            new Scene(check, "registers r and s become its numbers: 1").hand(SIGNATURE)
                    .answers(1, desk -> desk.signature(other, 0)).becomes(s, 5).becomes(0, 6)
                    .handBecomes().andNothingElse();
        }
    }

    /** 0 and 0 are a signature's numbers as bytes, though they fit no key. */
    private void theNumbersNeedNotFitAnything() {
        new Scene(check, "registers r and s become its numbers: 0 and 0").hand(48, 6, 2, 1, 0, 2, 1, 0)
                .answers(1, desk -> desk.signature(7, 6)).becomes(7, 0).becomes(6, 0)
                .answers(0, desk -> desk.fits(0, 7, 6, 1)).handBecomes().andNothingElse();
    }

    /** A second call finds nothing, so its registers stay. */
    private void theBytesAreNoneThen() {
        new Scene(check, "The bytes in hand, which are none then").hand(SIGNATURE)
                .answers(1, desk -> desk.signature(0, 1)).becomes(0, 5).becomes(1, 6)
                .answers(0, desk -> desk.signature(2, 3)).answers(0, desk -> desk.key(0))
                .handBecomes().andNothingElse();
    }

    /** Both registers stay, also where the first number could be read, and the bytes are none then too. */
    private void zeroIfTheyAreNone() {
        int[][] others = {{48}, {48, 6, 2, 1, 5}, {48, 6, 2, 1, 5, 2, 1, 128}, {48, 6, 2, 1, 5, 3, 1, 6},
            {48, 6, 2, 1, 5, 2, 1, 6, 0}, Scene.keyOf(Model.BASE), Scene.keyOf(2, Model.BASE.x()), new int[100]};
        for (int[] other : others) {
            new Scene(check, "0 if they are none, the bytes being none then").hand(other)
                    .answers(0, desk -> desk.signature(0, 1)).handBecomes().andNothingElse();
            new Scene(check, "0 if they are none, the bytes being none then").hand(other)
                    .answers(0, desk -> desk.signature(7, 0)).handBecomes().andNothingElse();
        }
    }

    private void zeroForNoBytes() {
        new Scene(check, "0 if they are none: no bytes").hand().answers(0, desk -> desk.signature(0, 1))
                .answers(0, desk -> desk.signature(7, 6)).andNothingElse();
    }

    /** Whether the bytes are a signature, a part of one, something else, none or all that there can be. */
    private void refusedForNoSuchRegisters() {
        int[][] hands = {SIGNATURE, {48, 6, 2}, {4}, {}, new int[100]};
        for (int none : Bench.NO_REGISTERS) {
            for (int[] hand : hands) {
                new Scene(check, "-1, refused (the bytes stay), for no such registers: " + none).hand(hand)
                        .answers(-1, desk -> desk.signature(none, 1))
                        .answers(-1, desk -> desk.signature(0, none))
                        .answers(-1, desk -> desk.signature(none, none)).andNothingElse();
            }
            new Scene(check, "-1, refused (the bytes stay), for no such registers: " + none).hand(SIGNATURE)
                    .answers(-1, desk -> desk.signature(none, 1)).answers(1, desk -> desk.signature(0, 1))
                    .becomes(0, 5).becomes(1, 6).handBecomes().andNothingElse();
        }
    }

    private void refusedIfRIsS() {
        int[][] hands = {SIGNATURE, {48, 6, 2}, {4}, {}, new int[100]};
        for (int r = 0; r < 8; r++) {
            int register = r;
            for (int[] hand : hands) {
                new Scene(check, "-1, refused (the bytes stay), for r is s: " + r).hand(hand)
                        .answers(-1, desk -> desk.signature(register, register)).andNothingElse();
            }
        }
        new Scene(check, "-1, refused (the bytes stay), for r is s").hand(SIGNATURE)
                .answers(-1, desk -> desk.signature(3, 3)).answers(1, desk -> desk.signature(3, 4))
                .becomes(3, 5).becomes(4, 6).handBecomes().andNothingElse();
    }
}
