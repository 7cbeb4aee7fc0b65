/** Counts the answers that are checked, and prints those that are not as due. */
final class Check {
    interface Call {
        Object answer();
    }

    private int checked = 0;
    private int wrong = 0;

    /** The answer must be of the very type that the face names: 5 is no 5L and no '\5'. */
    void due(String what, Object want, Call call) {
        Object got;
        try {
            got = call.answer();
        } catch (RuntimeException e) {
            got = "throws." + e.getClass().getSimpleName();
        }
        compare(what, want, got);
    }

    /** The call must throw this exception, no subclass of it, and change nothing. */
    void fails(String what, SlideLayout slide, Class<? extends RuntimeException> want, Call call) {
        String before = Sight.of(slide);
        due(what, "throws." + want.getSimpleName(), call);
        compare(what + ", and the object after it", before, Sight.of(slide));
    }

    void compare(String what, Object want, Object got) {
        checked++;
        if (!want.equals(got)) {
            wrong++;
            System.out.println(what + " answered " + got + ", due is " + want);
        }
    }

    int checked() {
        return checked;
    }

    /** Ends the program: with 1 if an answer was wrong. */
    void close(String test) {
        System.out.println(test + ": " + checked + " answers checked, " + wrong + " not as due");
        if (wrong != 0 || checked == 0) {
            System.exit(1);
        }
    }
}
