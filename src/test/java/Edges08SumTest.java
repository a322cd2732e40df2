import java.math.BigInteger;

/** The edges of promise 8, one test for each of its sentences. */
final class Edges08SumTest {
    private static final Model.Pair TEN_BASES = Model.times(BigInteger.TEN, Model.BASE);
    private static final Model.Pair ELEVEN_BASES = Model.add(TEN_BASES, Model.BASE);

    private final Check check = new Check();

    public static void main(String[] args) {
        Edges08SumTest test = new Edges08SumTest();
        test.firstAndLastSpot();
        test.sameSpots();
        test.sumsThatAreNone();
        test.oneSumAfterAnother();
        test.falseForNoSuchSpot();
        test.check.end();
    }

    private void firstAndLastSpot() {
        String sentence = "Spot q becomes the sum of spots a and b: true";
        new Scene(check, sentence).point(3, TEN_BASES)
                .answers(true, desk -> desk.sum(1, 0, 3)).spotBecomes(1, ELEVEN_BASES).andNothingElse();
        new Scene(check, sentence).point(3, TEN_BASES)
                .answers(true, desk -> desk.sum(1, 3, 0)).spotBecomes(1, ELEVEN_BASES).andNothingElse();
        new Scene(check, sentence)
                .answers(true, desk -> desk.sum(3, 1, 2)).spotBecomes(3, Scene.TWO_BASES).andNothingElse();
    }

    /** The sum comes from what a and b had before, though q is one of them. */
    private void sameSpots() {
        String sentence = "Spot q becomes the sum of spots a and b, some of them being one";
        new Scene(check, sentence + ", q = a").point(2, TEN_BASES)
                .answers(true, desk -> desk.sum(0, 0, 2)).spotBecomes(0, ELEVEN_BASES).andNothingElse();
        new Scene(check, sentence + ", q = b").point(2, TEN_BASES)
                .answers(true, desk -> desk.sum(2, 0, 2)).spotBecomes(2, ELEVEN_BASES).andNothingElse();
        new Scene(check, sentence + ", a = b")
                .answers(true, desk -> desk.sum(1, 0, 0)).spotBecomes(1, Scene.TWO_BASES).andNothingElse();
        new Scene(check, sentence + ", q = a = b")
                .answers(true, desk -> desk.sum(0, 0, 0)).spotBecomes(0, Scene.TWO_BASES).andNothingElse();
        new Scene(check, sentence + ", all NONE").answers(true, desk -> desk.sum(1, 1, 1)).andNothingElse();
    }

    private void sumsThatAreNone() {
        new Scene(check, "Spot q becomes the sum, NONE").answers(true, desk -> desk.sum(2, 0, 3))
                .spotBecomes(2, null).andNothingElse();
        new Scene(check, "Spot q becomes the sum, NONE").answers(true, desk -> desk.sum(0, 3, 0))
                .spotBecomes(0, null).andNothingElse();
        new Scene(check, "Spot q becomes the sum, NONE").answers(true, desk -> desk.sum(0, 1, 1))
                .spotBecomes(0, null).andNothingElse();
    }

    /** What was reckoned before, a point or NONE, is no part of the next sum. */
    private void oneSumAfterAnother() {
        new Scene(check, "Spot q becomes the sum of spots a and b, one after another").number(5, 10)
                .answers(true, desk -> desk.sum(1, 0, 2))
                .answers(true, desk -> desk.sum(1, 0, 0))
                .answers(true, desk -> desk.times(1, 2, 5))
                .answers(0, desk -> desk.fits(0, 0, 1, 2))
                .answers(true, desk -> desk.sum(1, 0, 0))
                .answers(true, desk -> desk.sum(2, 0, 3))
                .answers(true, desk -> desk.sum(2, 2, 2))
                .answers(true, desk -> desk.sum(3, 0, 1))
                .spotBecomes(1, Scene.TWO_BASES).spotBecomes(2, null)
                .spotBecomes(3, Model.add(Model.BASE, Scene.TWO_BASES)).andNothingElse();
    }

    private void falseForNoSuchSpot() {
        for (int none : Bench.NO_SPOTS) {
            new Scene(check, "false if one of them is none such: " + none)
                    .answers(false, desk -> desk.sum(none, 0, 2))
                    .answers(false, desk -> desk.sum(1, none, 2))
                    .answers(false, desk -> desk.sum(1, 0, none))
                    .answers(false, desk -> desk.sum(0, none, none))
                    .answers(false, desk -> desk.sum(none, none, none)).andNothingElse();
        }
    }
}
