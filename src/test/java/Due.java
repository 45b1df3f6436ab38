/**
 * Compares answers with those that are due, and ends a test with exit code 1 if one was wrong. Public, as
 * BrokenTest has it used by classes of another loader.
 */
public final class Due {
    private final String test;
    private int checked = 0;
    private int wrong = 0;

    public Due(String test) {
        this.test = test;
    }

    public void is(String call, long got, long want) {
        checked++;
        if (got != want) {
            wrong++;
            System.out.println(test + ": " + call + " answered " + got + ", due is " + want);
        }
    }

    public void holds(String what, boolean truth) {
        checked++;
        if (!truth) {
            wrong++;
            System.out.println(test + ": " + what + " does not hold");
        }
    }

    public void same(String what, String got, String want) {
        checked++;
        if (!got.equals(want)) {
            wrong++;
            System.out.println(test + ": " + what + " is \"" + got + "\", due is \"" + want + "\"");
        }
    }

    public void add(Due part) {
        checked += part.checked;
        wrong += part.wrong;
    }

    public boolean hasWrong() {
        return wrong > 0;
    }

    public void end() {
        System.out.println(test + ": " + checked + " checks, " + wrong + " wrong");
        System.exit(wrong == 0 ? 0 : 1);
    }
}
