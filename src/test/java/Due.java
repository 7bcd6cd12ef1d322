/** Notes each answer that is not the due one. */
final class Due {
    private static final int MOST_TOLD = 20;

    private final StringBuilder complaints = new StringBuilder();
    private int checked = 0;
    private int wrong = 0;

    void is(String what, long got, long due) {
        note(got == due, what + " answered " + got + ", due is " + due);
    }

    void holds(String what, boolean truth) {
        note(truth, what + " does not hold");
    }

    private void note(boolean right, String complaint) {
        checked++;
        if (!right) {
            wrong++;
            if (wrong <= MOST_TOLD) {
                complaints.append("        ").append(complaint).append('\n');
            }
        }
    }

    /** A test that looked at nothing has not passed either. */
    boolean isMet() {
        return wrong == 0 && checked > 0;
    }

    String told() {
        return complaints + "        " + checked + " answers looked at, " + wrong + " not as due\n";
    }
}
