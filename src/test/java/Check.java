import java.util.Objects;

/** Prints every answer that is not the one due, and ends the program with 1 if there was one. */
final class Check {
    private int asked = 0;
    private int wrong = 0;

    void due(String what, Object got, Object want) {
        asked++;
        if (!Objects.equals(got, want)) {
            wrong++;
            System.out.println(what + " answered " + got + ", due is " + want);
        }
    }

    void end() {
        System.out.println(asked + " answers, " + wrong + " of them not as due");
        if (wrong != 0 || asked == 0) {
            System.exit(1);
        }
    }
}
