/** What every test of the project uses: notes each answer that is not the due one, and ends the run. */
final class Due {
    private int checked = 0;
    private int wrong = 0;

    void is(String what, long got, long due) {
        checked++;
        if (got != due) {
            wrong++;
            System.out.println(what + " answered " + got + ", due is " + due);
        }
    }

    void holds(String what, boolean truth) {
        checked++;
        if (!truth) {
            wrong++;
            System.out.println(what + " does not hold");
        }
    }

    /** A test that looked at nothing has not passed either. */
    void end() {
        System.out.println(checked + " answers looked at, " + wrong + " not as due");
        if (wrong != 0 || checked == 0) {
            System.exit(1);
        }
    }
}
