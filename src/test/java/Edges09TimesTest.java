import java.math.BigInteger;

/** The edges of promise 9, one test for each of its sentences. */
final class Edges09TimesTest {
    private static final BigInteger ONE = BigInteger.ONE;

    private final Check check = new Check();

    public static void main(String[] args) {
        Edges09TimesTest test = new Edges09TimesTest();
        test.theLowestAndHighestNumber();
        test.roundN();
        test.sameSpot();
        test.firstAndLastOfAll();
        test.falseForNoSuchSpot();
        test.falseForNoSuchRegister();
        test.check.end();
    }

    private void makes(BigInteger k, Model.Pair due) {
        new Scene(check, "Spot q becomes register r times spot a: " + k).number(5, k)
                .answers(true, desk -> desk.times(1, 2, 5)).spotBecomes(1, due).andNothingElse();
    }

    private void theLowestAndHighestNumber() {
        makes(BigInteger.ZERO, null);
        makes(ONE, Scene.TWO_BASES);
        makes(Bench.HIGHEST, Model.times(Bench.HIGHEST.subtract(Model.N), Scene.TWO_BASES));
        new Scene(check, "Spot q becomes register r times spot a, NONE").number(5, Bench.HIGHEST)
                .answers(true, desk -> desk.times(0, 1, 5)).spotBecomes(0, null).andNothingElse();
    }

    private void roundN() {
        makes(Model.N.subtract(ONE), Model.minus(Scene.TWO_BASES));
        makes(Model.N, null);
        makes(Model.N.add(ONE), Scene.TWO_BASES);
        // Of twice the base, half of N + 1 makes the base again.
        makes(Model.N.add(ONE).shiftRight(1), Model.BASE);
        makes(Model.N.subtract(ONE).shiftRight(1), Model.minus(Model.BASE));
    }

    private void sameSpot() {
        new Scene(check, "Spot q becomes register r times spot a, q = a").number(0, 2)
                .answers(true, desk -> desk.times(0, 0, 0)).spotBecomes(0, Scene.TWO_BASES).andNothingElse();
        new Scene(check, "Spot q becomes register r times spot a, q = a, NONE").number(0, 2)
                .answers(true, desk -> desk.times(1, 1, 0)).andNothingElse();
        new Scene(check, "Spot q becomes register r times spot a, q = a, 0 times").number(0, 0)
                .answers(true, desk -> desk.times(0, 0, 0)).spotBecomes(0, null).andNothingElse();
    }

    private void firstAndLastOfAll() {
        String sentence = "Spot q becomes register r times spot a: true";
        new Scene(check, sentence).number(7, 2).answers(true, desk -> desk.times(3, 0, 7))
                .spotBecomes(3, Scene.TWO_BASES).andNothingElse();
        new Scene(check, sentence).number(0, 2).answers(true, desk -> desk.times(0, 3, 0))
                .spotBecomes(0, Model.minus(Scene.TWO_BASES)).andNothingElse();
    }

    private void falseForNoSuchSpot() {
        for (int none : Bench.NO_SPOTS) {
            new Scene(check, "false if one of them is none such: spot " + none)
                    .answers(false, desk -> desk.times(none, 0, 1))
                    .answers(false, desk -> desk.times(1, none, 1))
                    .answers(false, desk -> desk.times(none, none, 1)).andNothingElse();
        }
    }

    /** Registers have other bounds than spots: 4 .. 7 are registers. */
    private void falseForNoSuchRegister() {
        for (int none : Bench.NO_REGISTERS) {
            new Scene(check, "false if one of them is none such: register " + none)
                    .answers(false, desk -> desk.times(1, 0, none))
                    .answers(false, desk -> desk.times(0, 0, none))
                    .answers(false, desk -> desk.times(none, none, none)).andNothingElse();
        }
        for (int r = 4; r < 8; r++) {
            int register = r;
            new Scene(check, "Spot q becomes register r times spot a: register " + r).number(r, 2)
                    .answers(true, desk -> desk.times(1, 0, register)).spotBecomes(1, Scene.TWO_BASES)
                    .andNothingElse();
        }
    }
}
