import java.util.function.Consumer;

/** Calls that are refused: each with the exception that is due, and without changing anything in the object. */
final class Refuses {
    private Refuses() {
    }

    interface NumberCall {
        void run(CallClub club, int number);
    }

    static void index(CallClub x, String what, Consumer<CallClub> call) {
        String before = Picture.of(x);
        Check.index(what, () -> call.accept(x));
        unchanged(x, what, before);
    }

    static void argument(CallClub x, String what, Consumer<CallClub> call) {
        String before = Picture.of(x);
        Check.argument(what, () -> call.accept(x));
        unchanged(x, what, before);
    }

    static void state(CallClub x, String what, Consumer<CallClub> call) {
        String before = Picture.of(x);
        Check.state(what, () -> call.accept(x));
        unchanged(x, what, before);
    }

    /** The numbers from 0 are those of as many things as told; what lies next to them, or far away, is no such one. */
    static void noSuch(CallClub x, String what, int many, NumberCall call) {
        int[] wrong = {-1, many, many + 1, -2, Integer.MIN_VALUE, Integer.MAX_VALUE};
        for (int number : wrong) {
            index(x, what + " " + number, c -> call.run(c, number));
        }
    }

    /** The same for events, where NONE is no wrong one. */
    static void noSuchEvent(CallClub x, String what, int many, NumberCall call) {
        int[] wrong = {-2, many, many + 1, Integer.MIN_VALUE, Integer.MAX_VALUE};
        for (int number : wrong) {
            index(x, what + " " + number, c -> call.run(c, number));
        }
    }

    /** What lies next to a range, or far away, is out of it. */
    static void outside(CallClub x, String what, int least, int most, NumberCall call) {
        int[] wrong = {least - 1, most + 1, Integer.MIN_VALUE, Integer.MAX_VALUE};
        for (int number : wrong) {
            argument(x, what + " " + number, c -> call.run(c, number));
        }
    }

    static void outsideYears(CallClub x, NumberCall call) {
        outside(x, "year", 0, 19, call);
    }

    private static void unchanged(CallClub x, String what, String before) {
        Check.equal(what + ": changes nothing", before.equals(Picture.of(x)), true);
    }
}
