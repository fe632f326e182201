import java.util.ArrayList;
import java.util.EnumMap;
import java.util.List;
import java.util.Map;
import java.util.TreeSet;
import java.util.function.Consumer;
import java.util.function.Supplier;

/** What the tests share: they say what is due, and every answer that is not is printed. */
final class Check {
    interface Call {
        long answer(MarginDesk desk);
    }

    static final Class<? extends RuntimeException> NO_SUCH = IndexOutOfBoundsException.class;
    static final Class<? extends RuntimeException> WRONG_ARGUMENT = IllegalArgumentException.class;
    static final Class<? extends RuntimeException> WRONG_STATE = IllegalStateException.class;

    /** Numbers that a cast to byte, char or short, or a shift by them, would take for 0, 1 or 2. */
    static final int[] WRAPPING = {32, 33, 34, 256, 257, 258, 1 << 16, (1 << 16) + 1, Integer.MIN_VALUE + 1, -256, -255};

    private static final Map<Start, List<String>> STATES = new EnumMap<>(Start.class);
    private static int wrong = 0;

    private Check() {
    }

    static void due(String what, long want, long got) {
        if (want != got) {
            fail(what + " answered " + got + ", due is " + want);
        }
    }

    static void due(String what, boolean want, boolean got) {
        if (want != got) {
            fail(what + " answered " + got + ", due is " + want);
        }
    }

    static void due(String what, String want, String got) {
        if (!want.equals(got)) {
            fail(what + " answered " + got + ", due is " + want);
        }
    }

    static void fail(String what) {
        wrong++;
        System.out.println(what);
    }

    /** The call must throw just this class, by a throw of MarginDesk's own, and change nothing. */
    static void refused(String what, Class<? extends RuntimeException> kind, Supplier<MarginDesk> make, Call call) {
        try {
            fail(what + " answered " + call.answer(make.get()) + ", due is " + kind.getName());
            return;
        } catch (RuntimeException thrown) {
            if (thrown.getClass() != kind) {
                fail(what + " threw " + thrown + ", due is " + kind.getName());
            }
            if (!isOwn(thrown)) {
                fail(what + " let the machine throw " + thrown);
            }
        }
        List<String> ahead = stateOf(make);
        List<String> behind = State.of(() -> behindRefusal(make.get(), call));
        for (int part = 0; part < Math.max(ahead.size(), behind.size()); part++) {
            due(what + ": the state behind the exception", partOf(ahead, part), partOf(behind, part));
        }
    }

    /** What is due of a call that some exceptions of its throws clause apply to: the one that is listed first. */
    static void meets(String what, Start start, Call call,
            boolean noSuch, boolean wrongArgument, boolean wrongState, Supplier<Integer> answer) {
        if (noSuch || wrongArgument || wrongState) {
            refused(what, noSuch ? NO_SUCH : wrongArgument ? WRONG_ARGUMENT : WRONG_STATE, start, call);
        } else {
            due(what, answer.get(), call.answer(start.get()));
        }
    }

    /** The least and the greatest number of an argument, those one beside them, and int's own. */
    static List<Integer> edges(int least, int greatest) {
        return new ArrayList<>(new TreeSet<>(List.of(
            Integer.MIN_VALUE, least - 1, least, greatest, greatest + 1, Integer.MAX_VALUE)));
    }

    static boolean outside(int number, int least, int greatest) {
        return number < least || number > greatest;
    }

    /** A desk on which these calls were made. */
    static MarginDesk desk(Consumer<MarginDesk> calls) {
        MarginDesk desk = new MarginDesk();
        calls.accept(desk);
        return desk;
    }

    /** A desk with this document: the letter 'a' is 0. */
    static MarginDesk deskWith(String document) {
        return desk(desk -> write(desk, 0, document));
    }

    static void write(MarginDesk desk, int at, String letters) {
        for (int i = 0; i < letters.length(); i++) {
            desk.insert(at + i, letters.charAt(i) - 'a', 1);
        }
    }

    static String document(MarginDesk desk) {
        StringBuilder letters = new StringBuilder();
        int length = desk.length();
        for (int place = 0; place < length; place++) {
            letters.append((char) ('a' + desk.letterAt(place)));
        }
        return letters.toString();
    }

    static boolean isOwn(RuntimeException thrown) {
        StackTraceElement[] trace = thrown.getStackTrace();
        return trace.length > 0 && trace[0].getClassName().startsWith("MarginDesk");
    }

    /** Ends the test; its program ends with 1 if an answer was wrong. */
    static void end(String test) {
        System.out.println(test + ": " + (wrong == 0 ? "all answers are as due" : wrong + " wrong"));
        System.exit(wrong == 0 ? 0 : 1);
    }

    private static List<String> stateOf(Supplier<MarginDesk> make) {
        return make instanceof Start ? STATES.computeIfAbsent((Start) make, State::of) : State.of(make);
    }

    private static String partOf(List<String> state, int part) {
        return part < state.size() ? state.get(part) : "nothing";
    }

    private static MarginDesk behindRefusal(MarginDesk desk, Call call) {
        try {
            call.answer(desk);
        } catch (RuntimeException refused) {
            return desk;
        }
        throw new IllegalStateException("the call was not refused this time");
    }
}
