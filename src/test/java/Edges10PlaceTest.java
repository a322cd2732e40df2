/** The edges of promise 10, one test for each of its sentences. */
final class Edges10PlaceTest {
    private final Check check = new Check();

    public static void main(String[] args) {
        Edges10PlaceTest test = new Edges10PlaceTest();
        test.registersBecomeXAndY();
        test.zeroIfThatIsNone();
        test.zeroIfThatHasBecomeNone();
        test.refusedForNoSuchSpot();
        test.refusedForNoSuchRegister();
        test.refusedIfRIsS();
        test.check.end();
    }

    private void registersBecomeXAndY() {
        String sentence = "Registers r and s become x and y of spot q: 1";
        for (int s = 1; s < 8; s++) {
            int other = s;
            new Scene(check, sentence).answers(1, desk -> desk.place(0, 0, other))
                    .becomes(0, Model.BASE.x()).becomes(s, Model.BASE.y()).andNothingElse();
            new Scene(check, sentence).answers(1, desk -> desk.place(2, other, 0))
                    .becomes(s, Scene.TWO_BASES.x()).becomes(0, Scene.TWO_BASES.y()).andNothingElse();
        }
        new Scene(check, sentence).answers(1, desk -> desk.place(3, 7, 6))
                .becomes(7, Model.BASE.x()).becomes(6, Model.P.subtract(Model.BASE.y())).andNothingElse();
    }

    private void zeroIfThatIsNone() {
        String sentence = "0 if that is NONE, nothing changing";
        for (int q = 0; q < 4; q++) {
            int spot = q;
            new Scene(check, sentence).point(q, null)
                    .answers(0, desk -> desk.place(spot, 0, 1))
                    .answers(0, desk -> desk.place(spot, 7, 6)).andNothingElse();
        }
    }

    /** By each call that can make NONE of a spot that had a point. */
    private void zeroIfThatHasBecomeNone() {
        String sentence = "0 if that is NONE, nothing changing";
        new Scene(check, sentence + ", by spot").answers(1, desk -> desk.spot(0, 0, 0, 0)).spotBecomes(0, null)
                .answers(0, desk -> desk.place(0, 4, 5)).andNothingElse();
        new Scene(check, sentence + ", by sum").answers(true, desk -> desk.sum(0, 0, 3)).spotBecomes(0, null)
                .answers(0, desk -> desk.place(0, 4, 5)).andNothingElse();
        new Scene(check, sentence + ", by times").number(1, Model.N)
                .answers(true, desk -> desk.times(0, 0, 1)).spotBecomes(0, null)
                .answers(0, desk -> desk.place(0, 4, 5)).andNothingElse();
    }

    private void refusedForNoSuchSpot() {
        for (int none : Bench.NO_SPOTS) {
            new Scene(check, "-1, refused, if there is no such spot: " + none)
                    .answers(-1, desk -> desk.place(none, 0, 1))
                    .answers(-1, desk -> desk.place(none, 0, 0)).andNothingElse();
        }
    }

    private void refusedForNoSuchRegister() {
        for (int none : Bench.NO_REGISTERS) {
            new Scene(check, "-1, refused, if there is no such register: " + none)
                    .answers(-1, desk -> desk.place(0, none, 1))
                    .answers(-1, desk -> desk.place(0, 1, none))
                    .answers(-1, desk -> desk.place(0, none, none))
                    // Spot 1 is NONE: what is refused is told before that.
                    .answers(-1, desk -> desk.place(1, none, 1))
                    .answers(-1, desk -> desk.place(1, 1, none)).andNothingElse();
        }
    }

    private void refusedIfRIsS() {
        for (int r = 0; r < 8; r++) {
            int register = r;
            new Scene(check, "-1, refused, if r is s: " + r)
                    .answers(-1, desk -> desk.place(0, register, register))
                    .answers(-1, desk -> desk.place(3, register, register))
                    // Spot 1 is NONE: what is refused is told before that.
                    .answers(-1, desk -> desk.place(1, register, register)).andNothingElse();
        }
    }
}
