/** Counts the answers of a test that are not the ones that are due. */
final class Check {
    private final String test;
    private int checked;
    private int wrong;

    Check(String test) {
        this.test = test;
    }

    void due(String call, long got, long want) {
        report(call, got == want, Long.toString(got), Long.toString(want));
    }

    void due(String call, boolean got, boolean want) {
        report(call, got == want, Boolean.toString(got), Boolean.toString(want));
    }

    void dueReal(String call, double got, double want) {
        report(call, got == want, Double.toString(got), Double.toString(want));
    }

    void dueText(String call, String got, String want) {
        report(call, got.equals(want), got, want);
    }

    /** The class must be the very one that the document names, not one below it. */
    void dueThrow(String call, Class<? extends RuntimeException> want, Runnable action) {
        String got = "nothing";
        try {
            action.run();
        } catch (RuntimeException e) {
            got = e.getClass().getName();
        }
        report(call, got.equals(want.getName()), got, want.getName());
    }

    private void report(String call, boolean right, String got, String want) {
        checked++;
        if (!right) {
            wrong++;
            System.out.println(test + ": " + call + " answered " + got + ", due is " + want);
        }
    }

    void end() {
        System.out.println(test + ": " + checked + " answers checked, " + wrong + " wrong");
        if (wrong != 0 || checked == 0) {
            System.exit(1);
        }
    }
}
