/** Counts answers that are not as due, for one test class. */
final class Check {
    interface Call {
        long answer();
    }

    private int checked = 0;
    private int wrong = 0;

    void due(String call, long want, long got) {
        checked++;
        if (want != got) {
            wrong++;
            System.out.println(call + " answered " + got + ", due is " + want);
        }
    }

    void due(String call, String want, String got) {
        checked++;
        if (!want.equals(got)) {
            wrong++;
            System.out.println(call + " answered " + got + ", due is " + want);
        }
    }

    void noSuch(String call, Call made) {
        due(call, "IndexOutOfBoundsException", outcome(made));
    }

    void outOfRange(String call, Call made) {
        due(call, "IllegalArgumentException", outcome(made));
    }

    void notNow(String call, Call made) {
        due(call, "IllegalStateException", outcome(made));
    }

    /** The answer as text, or the simple name of what was thrown. */
    static String outcome(Call made) {
        try {
            return Long.toString(made.answer());
        } catch (RuntimeException thrown) {
            return thrown.getClass().getSimpleName();
        }
    }

    void end() {
        System.out.println(checked + " answers checked, " + wrong + " not as due");
        if (wrong != 0 || checked == 0) {
            System.exit(1);
        }
    }
}
