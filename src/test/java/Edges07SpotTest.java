import java.math.BigInteger;

/** The edges of promise 7, one test for each of its sentences. */
final class Edges07SpotTest {
    private static final Model.Pair TEN_BASES = Model.times(BigInteger.TEN, Model.BASE);

    private final Check check = new Check();

    public static void main(String[] args) {
        Edges07SpotTest test = new Edges07SpotTest();
        test.becomesNone();
        test.becomesTheBase();
        test.becomesThePointOfTheRegisters();
        test.registersMatterFor2Alone();
        test.refusedForNoSuchSpot();
        test.refusedForNoSuchKind();
        test.refusedForNoSuchRegister();
        test.refusedIfThatIsNoPoint();
        test.check.end();
    }

    private void becomesNone() {
        for (int q = 0; q < 4; q++) {
            int spot = q;
            new Scene(check, "Spot q becomes NONE (kind 0)").answers(1, desk -> desk.spot(0, spot, 0, 1))
                    .spotBecomes(q, null).andNothingElse();
        }
    }

    private void becomesTheBase() {
        for (int q = 0; q < 4; q++) {
            int spot = q;
            new Scene(check, "Spot q becomes the base (1)").answers(1, desk -> desk.spot(1, spot, 0, 1))
                    .spotBecomes(q, Model.BASE).andNothingElse();
        }
    }

    /** The registers' later numbers are not the spot's. */
    private void becomesThePointOfTheRegisters() {
        for (int q = 0; q < 4; q++) {
            int spot = q;
            new Scene(check, "the point of registers r and s (2)").number(0, TEN_BASES.x()).number(7, TEN_BASES.y())
                    .answers(1, desk -> desk.spot(2, spot, 0, 7)).spotBecomes(q, TEN_BASES)
                    .number(0, 1).number(7, 1).andNothingElse();
        }
    }

    private void registersMatterFor2Alone() {
        for (int none : Bench.NO_REGISTERS) {
            new Scene(check, "r and s matter for 2 alone: " + none)
                    .answers(1, desk -> desk.spot(0, 0, none, none)).spotBecomes(0, null)
                    .answers(1, desk -> desk.spot(1, 1, none, none)).spotBecomes(1, Model.BASE)
                    .answers(0, desk -> desk.spot(2, 2, none, none)).andNothingElse();
        }
        // Nor do their numbers matter, which are no point here, nor whether they are one register.
        new Scene(check, "r and s matter for 2 alone").number(0, Bench.HIGHEST)
                .answers(1, desk -> desk.spot(0, 0, 0, 0)).spotBecomes(0, null)
                .answers(1, desk -> desk.spot(1, 1, 0, 0)).spotBecomes(1, Model.BASE).andNothingElse();
    }

    private void refusedForNoSuchSpot() {
        for (int none : Bench.NO_SPOTS) {
            new Scene(check, "0, refused, if there is no such spot: " + none)
                    .number(0, TEN_BASES.x()).number(1, TEN_BASES.y())
                    .answers(0, desk -> desk.spot(0, none, 0, 1))
                    .answers(0, desk -> desk.spot(1, none, 0, 1))
                    .answers(0, desk -> desk.spot(2, none, 0, 1)).andNothingElse();
        }
    }

    private void refusedForNoSuchKind() {
        int[] noKinds = {-1, 3, 4, Integer.MIN_VALUE, Integer.MAX_VALUE};
        for (int none : noKinds) {
            new Scene(check, "0, refused, if there is no such kind: " + none)
                    .number(0, TEN_BASES.x()).number(1, TEN_BASES.y())
                    .answers(0, desk -> desk.spot(none, 0, 0, 1))
                    .answers(0, desk -> desk.spot(none, 1, 0, 1)).andNothingElse();
        }
    }

    private void refusedForNoSuchRegister() {
        for (int none : Bench.NO_REGISTERS) {
            new Scene(check, "0, refused, if there is no such register: " + none)
                    .number(0, TEN_BASES.x()).number(1, TEN_BASES.y())
                    .answers(0, desk -> desk.spot(2, 0, none, 1))
                    .answers(0, desk -> desk.spot(2, 0, 0, none))
                    .answers(0, desk -> desk.spot(2, 1, none, none)).andNothingElse();
        }
    }

    /** No point has like x and y, so one register alone never makes one. */
    private void refusedIfThatIsNoPoint() {
        new Scene(check, "0, refused, if that is no point").number(0, TEN_BASES.x()).number(1, TEN_BASES.y())
                .answers(0, desk -> desk.spot(2, 0, 1, 0))
                .answers(0, desk -> desk.spot(2, 1, 1, 0))
                .answers(0, desk -> desk.spot(2, 0, 0, 0))
                .answers(0, desk -> desk.spot(2, 0, 1, 1))
                .answers(0, desk -> desk.spot(2, 0, 2, 3)).andNothingElse();
        new Scene(check, "0, refused, if that is no point, for x = y = 0").number(0, 0).number(1, 0)
                .answers(0, desk -> desk.spot(2, 0, 0, 1))
                .answers(0, desk -> desk.spot(2, 1, 0, 1)).andNothingElse();
    }
}
