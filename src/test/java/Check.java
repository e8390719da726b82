/** Counts the answers that are not the ones that are due, and tells them. */
final class Check {
    private final String name;
    private int wrong;
    private int looked;

    Check(String name) {
        this.name = name;
    }

    void due(String what, int got, int want) {
        looked++;
        if (got != want) {
            wrong++;
            System.out.println(name + ": " + what + " answered " + got + ", due is " + want);
        }
    }

    void due(String what, boolean got, boolean want) {
        due(what, got ? 1 : 0, want ? 1 : 0);
    }

    void same(String what, String got, String want) {
        looked++;
        if (!got.equals(want)) {
            wrong++;
            System.out.println(name + ": " + what + "\n  is      " + got + "\n  due was " + want);
        }
    }

    void end() {
        if (looked == 0) {
            System.out.println(name + ": nothing was looked at");
        }
        if (wrong != 0 || looked == 0) {
            System.exit(1);
        }
    }
}
