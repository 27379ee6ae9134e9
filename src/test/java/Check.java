import java.util.function.Consumer;
import java.util.function.Supplier;

/** Counts and prints answers that are not as due; every test program ends by finish(). */
final class Check {
    static final Class<?> RANGE = IllegalArgumentException.class;
    static final Class<?> STATE = IllegalStateException.class;
    static final Class<?> INDEX = IndexOutOfBoundsException.class;

    private static int wrong = 0;
    private static int checked = 0;
    private static String sentence = "";

    private Check() {
    }

    /** The document's sentence that the checks from here on are for; a failure tells it. */
    static void sentence(String words) {
        sentence = "[" + words + "] ";
    }

    static void due(String what, long got, long want) {
        checked++;
        if (got != want) {
            fail(what + " answered " + got + ", due is " + want);
        }
    }

    static void isTrue(String what, boolean holds) {
        checked++;
        if (!holds) {
            fail(what);
        }
    }

    static void fail(String text) {
        wrong++;
        if (wrong <= 40) {
            System.out.println(sentence + text);
        }
    }

    /** The call must throw just this class. */
    static void throwsIt(String what, Class<?> want, Runnable call) {
        checked++;
        Class<?> got = thrownBy(call);
        if (got != want) {
            fail(what + " threw " + got + ", due is " + want);
        }
    }

    /** The call must throw just this class, and leave everything that can be asked as it was. */
    static void refuses(Windlane field, String what, Class<?> want, Runnable call) {
        String before = stateOf(field);
        throwsIt(what, want, call);
        isTrue(what + " threw, but changed something", before.equals(stateOf(field)));
    }

    /**
     * The call must throw just this class, and whatever is called later must answer as it does on a twin that never
     * saw the call. Two new objects are made, so that no object comes near its 512th call.
     */
    static void refused(String what, Class<?> want, Supplier<Windlane> made, Consumer<Windlane> call) {
        Windlane field = made.get();
        Windlane twin = made.get();
        throwsIt(what, want, () -> call.accept(field));
        String got = Probe.answersOf(field);
        String due = Probe.answersOf(twin);
        isTrue(what + " changed something:\n" + got + "\ndue is\n" + due, got.equals(due));
    }

    /** Numbers that are not from least to most: one off, those whose low bits would fit, and the ends of int. */
    static int[] outside(int least, int most) {
        return new int[] {least - 1, most + 1, least + 256, most + 65536, most - 65536,
            Integer.MIN_VALUE, Integer.MAX_VALUE};
    }

    static Class<?> thrownBy(Runnable call) {
        try {
            call.run();
            return null;
        } catch (RuntimeException e) {
            return e.getClass();
        }
    }

    /** All that the questions tell, and whether it rains. */
    static String stateOf(Windlane field) {
        StringBuilder state = new StringBuilder();
        int kites = kitesOf(field);
        for (int kite = 0; kite < kites; kite++) {
            for (int what = 0; what <= 5; what++) {
                state.append(field.about(kite, what)).append(' ');
            }
            state.append(field.tension(kite)).append('\n');
        }
        for (int lane = 0; lane < 10; lane++) {
            state.append(field.lane(lane)).append(' ');
        }
        boolean rains = field.rain(false);
        field.rain(rains);
        return state.append(field.called()).append(' ').append(rains).toString();
    }

    static int kitesOf(Windlane field) {
        int count = 0;
        while (count < 8 && hasKite(field, count)) {
            count++;
        }
        return count;
    }

    private static boolean hasKite(Windlane field, int kite) {
        try {
            field.about(kite, 0);
            return true;
        } catch (IndexOutOfBoundsException e) {
            return false;
        }
    }

    /** A new kite in the hands of a new borrower who may have any kind. */
    static int lentKite(Windlane field, int kind, int area, int weight) {
        int kite = field.kite(kind, area, weight);
        field.lend(kite, field.borrower(3));
        return kite;
    }

    /** Flies the kite in a wind of this speed, then tells a wind of 30 that must tear it. */
    static void tear(Windlane field, int kite, int speed) {
        field.wind(speed, 0);
        field.fly(kite, 9, 10);
        due("kites called down by the tearing wind", field.wind(30, 0), 1);
        due("torn by the wind", field.about(kite, 1), 1);
    }

    static void finish() {
        System.out.println(checked + " checks, " + wrong + " wrong");
        if (wrong != 0) {
            System.exit(1);
        }
    }
}
