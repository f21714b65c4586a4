/** Counts and prints the answers that are not as due. */
final class Check {
    private String sentence = "";
    private int wrong = 0;
    private int asked = 0;

    /** The document's words that the answers from here on are held against. */
    void sentence(String words) {
        sentence = words + ": ";
    }

    void due(String what, long got, long want) {
        asked++;
        if (got != want) {
            wrong++;
            System.out.println(sentence + what + " answered " + got + ", due is " + want);
        }
    }

    void holds(String what, boolean truth) {
        due(what, truth ? 1 : 0, 1);
    }

    /** Ends the program with exit code 1 if something was wrong. */
    void end() {
        System.out.println(asked + " answers, " + wrong + " not as due");
        if (wrong != 0 || asked == 0) {
            System.exit(1);
        }
    }
}
