/** Holds answers against those that are due, and counts the wrong ones. */
final class Due {

    /** What a call does; a boolean counts 1 or 0. */
    interface Call {
        long answer();
    }

    private int checked;
    private int wrong;

    void is(String what, long got, long want) {
        checked++;
        if (got != want) {
            tellWrong(what + " answered " + got + ", due is " + want);
        }
    }

    void is(String what, String got, String want) {
        checked++;
        if (!want.equals(got)) {
            tellWrong(what + " answered \"" + got + "\", due is \"" + want + "\"");
        }
    }

    void refused(String what, Class<?> want, Call call) {
        checked++;
        String got = outcome(call);
        if (!got.equals("throws " + want.getName())) {
            tellWrong(what + ": " + got + ", due is throws " + want.getName());
        }
    }

    /** The answer or the exception's very class: what the machine throws is of a class below. */
    static String outcome(Call call) {
        try {
            return "answers " + call.answer();
        } catch (RuntimeException e) {
            return "throws " + e.getClass().getName();
        }
    }

    void tellWrong(String told) {
        wrong++;
        System.out.println(told);
    }

    void end() {
        System.out.println(wrong == 0 ? checked + " answers are as due" : wrong + " answers are not as due");
        if (wrong != 0 || checked == 0) {
            System.exit(1);
        }
    }
}
