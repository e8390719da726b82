/** Counts the answers that are not the ones that are due, and tells them. */
final class Check {
    private final String name;
    private String sentence = "";
    private int wrong;
    private int looked;
    private int lookedBefore = -1;

    Check(String name) {
        this.name = name;
    }

    /** The sentence of the document that the looks up to the next one are about. */
    void about(String next) {
        requireLooks();
        sentence = " [" + next + "]";
        lookedBefore = looked;
    }

    /** The same, where a sentence has several tests. */
    void about(String next, String edge) {
        about(next + "; " + edge);
    }

    void due(String what, int got, int want) {
        looked++;
        if (got != want) {
            wrong++;
            System.out.println(name + sentence + ": " + what + " answered " + got + ", due is " + want);
        }
    }

    void due(String what, boolean got, boolean want) {
        due(what, got ? 1 : 0, want ? 1 : 0);
    }

    void same(String what, String got, String want) {
        looked++;
        if (!got.equals(want)) {
            wrong++;
            System.out.println(name + sentence + ": " + what + "\n  is      " + got + "\n  due was " + want);
        }
    }

    void end() {
        requireLooks();
        if (looked == 0) {
            System.out.println(name + ": nothing was looked at");
        }
        if (wrong != 0 || looked == 0) {
            System.exit(1);
        }
    }

    private void requireLooks() {
        if (looked == lookedBefore) {
            wrong++;
            System.out.println(name + sentence + ": nothing was looked at");
        }
    }
}
