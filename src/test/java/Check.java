/** What the tests share: it counts answers, prints the wrong ones, and ends the program with 1 if there was one. */
final class Check {
    private static int asked;
    private static int wrong;
    private static String about = "";

    private Check() {
    }

    interface Call {
        void run();
    }

    static void equal(String what, long got, long want) {
        asked++;
        if (got != want) {
            tell(what + ": answered " + got + ", due is " + want);
        }
    }

    static void equal(String what, boolean got, boolean want) {
        asked++;
        if (got != want) {
            tell(what + ": answered " + got + ", due is " + want);
        }
    }

    static void index(String what, Call call) {
        thrown(what, IndexOutOfBoundsException.class, call);
    }

    static void argument(String what, Call call) {
        thrown(what, IllegalArgumentException.class, call);
    }

    static void state(String what, Call call) {
        thrown(what, IllegalStateException.class, call);
    }

    private static void thrown(String what, Class<?> want, Call call) {
        asked++;
        String got = nameOfThrown(call);
        if (!got.equals(want.getName())) {
            tell(what + ": threw " + got + ", due is " + want.getName());
        }
    }

    static String nameOfThrown(Call call) {
        try {
            call.run();
            return "nothing";
        } catch (RuntimeException e) {
            return e.getClass().getName();
        }
    }

    /** What the next answers are about; it is printed ahead of each wrong one. */
    static void about(String what) {
        about = what;
    }

    static void tell(String fault) {
        wrong++;
        System.out.println(about + fault);
    }

    static void end() {
        System.out.println(asked + " answers asked, " + wrong + " wrong");
        if (wrong != 0) {
            System.exit(1);
        }
    }
}
