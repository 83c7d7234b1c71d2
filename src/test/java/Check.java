/** Counts the answers that are not as due, and ends the program with 1 if there was one. */
final class Check {
    private String sentence = "";
    private int wrong = 0;
    private int asked = 0;

    /** Names the sentence of the document that the answers asked for from here on are about. */
    void sentence(int promise, String words) {
        sentence = "Promise " + promise + ", '" + words + "': ";
    }

    void due(String call, long want, long got) {
        asked++;
        if (want != got) {
            wrong++;
            System.out.println(sentence + call + " answered " + got + ", due is " + want);
        }
    }

    void due(String call, boolean want, boolean got) {
        due(call, want ? 1 : 0, got ? 1 : 0);
    }

    void dueText(String what, String want, String got) {
        asked++;
        if (!want.equals(got)) {
            wrong++;
            System.out.println(sentence + what + "\n  is  " + got + "\n  due " + want);
        }
    }

    boolean isClean() {
        return wrong == 0;
    }

    void finish() {
        System.out.println(asked + " answers asked for, " + wrong + " not as due");
        if (wrong != 0) {
            System.exit(1);
        }
    }
}
