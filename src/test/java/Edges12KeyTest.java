/** The edges of promise 12, one test for each of its sentences; the bytes' own are in EdgesKeyBytesTest. */
final class Edges12KeyTest {
    private static final int[] KEY = Scene.keyOf(Model.minus(Model.BASE));
    private static final int[] SHORT_KEY = Scene.keyOf(3, Model.BASE.x());

    private final Check check = new Check();

    public static void main(String[] args) {
        Edges12KeyTest test = new Edges12KeyTest();
        test.theSpotBecomesItsPoint();
        test.theBytesAreNoneThen();
        test.zeroIfTheyAreNoKey();
        test.zeroForNoBytes();
        test.refusedForNoSuchSpot();
        test.check.end();
    }

    private void theSpotBecomesItsPoint() {
        for (int q = 0; q < 4; q++) {
            int spot = q;
            new Scene(check, "are a key: spot q becomes its point: 1").hand(KEY).answers(1, desk -> desk.key(spot))
                    .spotBecomes(q, Model.minus(Model.BASE)).handBecomes().andNothingElse();
            new Scene(check, "are a key: spot q becomes its point: 1").hand(SHORT_KEY)
                    .answers(1, desk -> desk.key(spot))
                    .spotBecomes(q, Model.minus(Model.BASE)).handBecomes().andNothingElse();
        }
    }

    /** A second call finds nothing, so its spot stays. */
    private void theBytesAreNoneThen() {
        new Scene(check, "The bytes in hand, which are none then").hand(KEY)
                .answers(1, desk -> desk.key(0)).spotBecomes(0, Model.minus(Model.BASE))
                .answers(0, desk -> desk.key(2)).answers(0, desk -> desk.signature(0, 1))
                .handBecomes().andNothingElse();
        new Scene(check, "The bytes in hand, which are none then").hand(SHORT_KEY)
                .answers(1, desk -> desk.key(0)).spotBecomes(0, Model.minus(Model.BASE))
                .answers(0, desk -> desk.key(2)).answers(0, desk -> desk.signature(0, 1))
                .handBecomes().andNothingElse();
    }

    /** The spot stays as it is, NONE or not, and the bytes are none then too. */
    private void zeroIfTheyAreNoKey() {
        int[][] others = {{4}, {2}, {48, 6, 2, 1, 5, 2, 1, 6}, new int[33], new int[65], new int[100]};
        for (int[] other : others) {
            for (int q = 0; q < 4; q++) {
                int spot = q;
                new Scene(check, "0 if they are no key, the bytes being none then").hand(other)
                        .answers(0, desk -> desk.key(spot)).handBecomes().andNothingElse();
            }
        }
    }

    private void zeroForNoBytes() {
        new Scene(check, "0 if they are no key: no bytes").hand().answers(0, desk -> desk.key(0))
                .answers(0, desk -> desk.key(1)).andNothingElse();
    }

    /** Whether the bytes are a key, a part of one, something else, none or all that there can be. */
    private void refusedForNoSuchSpot() {
        int[][] hands = {KEY, SHORT_KEY, {4}, {48, 6, 2, 1, 5, 2, 1, 6}, {}, new int[100]};
        for (int none : Bench.NO_SPOTS) {
            for (int[] hand : hands) {
                new Scene(check, "-1, refused (the bytes stay), for no such spot: " + none).hand(hand)
                        .answers(-1, desk -> desk.key(none)).answers(-1, desk -> desk.key(none)).andNothingElse();
            }
            new Scene(check, "-1, refused (the bytes stay), for no such spot: " + none).hand(KEY)
                    .answers(-1, desk -> desk.key(none)).answers(1, desk -> desk.key(0))
                    .spotBecomes(0, Model.minus(Model.BASE)).handBecomes().andNothingElse();
        }
    }
}
