/** Counts what is due and what came, tells each difference, and ends a test's program by them. */
final class Check {
    /** A call whose answer, or whose exception, is looked at. */
    interface Call {
        long answer();
    }

    private final String title;
    private int looked;
    private int wrong;
    private String promise = "";

    Check(String title) {
        this.title = title;
    }

    void promise(int number, String name) {
        promise = "promise " + number + ", " + name + ": ";
    }

    /** What follows looks at this sentence of the document. */
    void says(String sentence) {
        promise = "'" + sentence + "': ";
    }

    void due(long want, long got) {
        due("answered", want, got);
    }

    void due(String what, long want, long got) {
        looked++;
        if (want != got) {
            tell(what + " " + got + ", due is " + want);
        }
    }

    void due(boolean want, boolean got) {
        due("answered (1 is true)", want ? 1 : 0, got ? 1 : 0);
    }

    void due(double want, double got) {
        looked++;
        if (want != got) {
            tell("answered " + got + ", due is " + want);
        }
    }

    void dueText(String want, String got) {
        looked++;
        if (!want.equals(got)) {
            int at = 0;
            while (at < want.length() && at < got.length() && want.charAt(at) == got.charAt(at)) {
                at++;
            }
            int from = Math.max(0, at - 40);
            tell("answered .." + got.substring(from, Math.min(got.length(), at + 20)) + ".., due is .."
                    + want.substring(from, Math.min(want.length(), at + 20)) + "..");
        }
    }

    /** The exception must be of this very class: what the machine throws by itself is of a class below it. */
    void dueThrow(Class<? extends RuntimeException> want, Call call) {
        looked++;
        try {
            tell("answered " + call.answer() + ", due is " + want.getSimpleName());
        } catch (RuntimeException e) {
            if (e.getClass() != want) {
                tell("threw " + e + ", due is " + want.getSimpleName());
            }
        }
    }

    private void tell(String what) {
        wrong++;
        int line = 0;
        for (StackTraceElement element : new Throwable().getStackTrace()) {
            if (line == 0 && element.getClassName().equals(title)) {
                line = element.getLineNumber();
            }
        }
        System.out.println(title + ", line " + line + ", " + promise + what);
    }

    void end() {
        System.out.println(title + ": " + looked + " looked at, " + wrong + " wrong");
        System.exit(wrong == 0 && looked > 0 ? 0 : 1);
    }
}
