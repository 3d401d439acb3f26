/** Counts what is due and what came, tells each difference, and ends a test's program by them. */
final class Check {
    /** A call whose answer, or whose exception, is looked at. */
    interface Call {
        long answer();
    }

    private final String title;
    private int looked;
    private int wrong;
    private String promise = "";

    Check(String title) {
        this.title = title;
    }

    void promise(int number, String name) {
        promise = "promise " + number + ", " + name + ": ";
    }

    void due(long want, long got) {
        due("answered", want, got);
    }

    void due(String what, long want, long got) {
        looked++;
        if (want != got) {
            tell(what + " " + got + ", due is " + want);
        }
    }

    void due(boolean want, boolean got) {
        due("answered (1 is true)", want ? 1 : 0, got ? 1 : 0);
    }

    void due(double want, double got) {
        looked++;
        if (want != got) {
            tell("answered " + got + ", due is " + want);
        }
    }

    /** The exception must be of this very class: what the machine throws by itself is of a class below it. */
    void dueThrow(Class<? extends RuntimeException> want, Call call) {
        looked++;
        try {
            tell("answered " + call.answer() + ", due is " + want.getSimpleName());
        } catch (RuntimeException e) {
            if (e.getClass() != want) {
                tell("threw " + e + ", due is " + want.getSimpleName());
            }
        }
    }

    private void tell(String what) {
        wrong++;
        StackTraceElement[] trace = new Throwable().getStackTrace();
        int line = 0;
        for (StackTraceElement element : trace) {
            if (line == 0 && !element.getClassName().startsWith("Check")) {
                line = element.getLineNumber();
            }
        }
        System.out.println(title + ", line " + line + ", " + promise + what);
    }

    void end() {
        System.out.println(title + ": " + looked + " looked at, " + wrong + " wrong");
        System.exit(wrong == 0 && looked > 0 ? 0 : 1);
    }
}
