/** Counts the answers that are not the ones due; end() closes a test with exit code 1 if there was one. */
final class Checks {
    interface Call {
        void make();
    }

    private int checked = 0;
    private int wrong = 0;

    void due(String call, long got, long want) {
        verdict(call, got == want, String.valueOf(got), String.valueOf(want));
    }

    void due(String call, double got, double want) {
        verdict(call, got == want, String.valueOf(got), String.valueOf(want));
    }

    /** Also looks that the refused call changed nothing, and that the class threw by itself, not the library for it. */
    void refused(String call, HarbourlightMonitor x, Class<? extends RuntimeException> due, Call made) {
        long before = x.digest();
        RuntimeException thrown = thrownBy(made);
        String got = thrown == null ? "no exception" : thrown.getClass().getSimpleName() + " of " + throwerOf(thrown);
        verdict(call, got.equals(due.getSimpleName() + " of HarbourlightMonitor"), got, due.getSimpleName());
        due(call + " changes nothing: digest()", x.digest(), before);
    }

    void badIndex(String call, HarbourlightMonitor x, Call made) {
        refused(call, x, IndexOutOfBoundsException.class, made);
    }

    void badArgument(String call, HarbourlightMonitor x, Call made) {
        refused(call, x, IllegalArgumentException.class, made);
    }

    void badState(String call, HarbourlightMonitor x, Call made) {
        refused(call, x, IllegalStateException.class, made);
    }

    void end() {
        System.out.println(checked + " answers looked at, " + wrong + " not as due");
        if (wrong != 0) {
            System.exit(1);
        }
    }

    private static RuntimeException thrownBy(Call made) {
        try {
            made.make();
            return null;
        } catch (RuntimeException e) {
            return e;
        }
    }

    private static String throwerOf(RuntimeException thrown) {
        StackTraceElement[] frames = thrown.getStackTrace();
        return frames.length == 0 ? "the machine" : frames[0].getClassName();
    }

    private void verdict(String call, boolean isRight, String got, String want) {
        checked++;
        if (!isRight) {
            wrong++;
            System.out.println(call + " answered " + got + ", due is " + want);
        }
    }
}
