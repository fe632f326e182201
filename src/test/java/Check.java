import java.util.function.Consumer;
import java.util.function.Supplier;

/** What the tests share: they say what is due, and every answer that is not is printed. */
final class Check {
    interface Call {
        long answer(MarginDesk desk);
    }

    static final Class<? extends RuntimeException> NO_SUCH = IndexOutOfBoundsException.class;
    static final Class<? extends RuntimeException> WRONG_ARGUMENT = IllegalArgumentException.class;
    static final Class<? extends RuntimeException> WRONG_STATE = IllegalStateException.class;

    private static final int VERSIONS_LOOKED_AT = 6;
    private static int wrong = 0;

    private Check() {
    }

    static void due(String what, long want, long got) {
        if (want != got) {
            fail(what + " answered " + got + ", due is " + want);
        }
    }

    static void due(String what, boolean want, boolean got) {
        if (want != got) {
            fail(what + " answered " + got + ", due is " + want);
        }
    }

    static void due(String what, String want, String got) {
        if (!want.equals(got)) {
            fail(what + " answered " + got + ", due is " + want);
        }
    }

    static void fail(String what) {
        wrong++;
        System.out.println(what);
    }

    /** The call must throw just this class, by a throw of MarginDesk's own, and change nothing. */
    static void refused(String what, Class<? extends RuntimeException> kind, Supplier<MarginDesk> make, Call call) {
        MarginDesk desk = make.get();
        String before = allThatShows(make.get());
        try {
            fail(what + " answered " + call.answer(desk) + ", due is " + kind.getName());
            return;
        } catch (RuntimeException thrown) {
            if (thrown.getClass() != kind) {
                fail(what + " threw " + thrown + ", due is " + kind.getName());
            }
            if (!isOwn(thrown)) {
                fail(what + " let the machine throw " + thrown);
            }
        }
        due(what + ": the state behind the exception", before, allThatShows(desk));
    }

    /** A desk on which these calls were made. */
    static MarginDesk desk(Consumer<MarginDesk> calls) {
        MarginDesk desk = new MarginDesk();
        calls.accept(desk);
        return desk;
    }

    /** A desk with this document: the letter 'a' is 0. */
    static MarginDesk deskWith(String document) {
        return desk(desk -> write(desk, 0, document));
    }

    static void write(MarginDesk desk, int at, String letters) {
        for (int i = 0; i < letters.length(); i++) {
            desk.insert(at + i, letters.charAt(i) - 'a', 1);
        }
    }

    static String document(MarginDesk desk) {
        StringBuilder letters = new StringBuilder();
        for (int place = 0; place < desk.length(); place++) {
            letters.append((char) ('a' + desk.letterAt(place)));
        }
        return letters.toString();
    }

    static boolean isOwn(RuntimeException thrown) {
        StackTraceElement[] trace = thrown.getStackTrace();
        return trace.length > 0 && trace[0].getClassName().startsWith("MarginDesk");
    }

    /** Ends the test; its program ends with 1 if an answer was wrong. */
    static void end(String test) {
        System.out.println(test + ": " + (wrong == 0 ? "all answers are as due" : wrong + " wrong"));
        System.exit(wrong == 0 ? 0 : 1);
    }

    /** Everything that the face tells. It uses the desk up: answers and suggestions tell by being made and accepted. */
    private static String allThatShows(MarginDesk desk) {
        StringBuilder shown = new StringBuilder();
        shown.append(document(desk)).append(" version ").append(desk.version());
        for (int place = 0; place <= desk.length(); place++) {
            shown.append(' ').append(desk.cover(place)).append('/').append(desk.coverByLetters(place));
        }
        shown.append(" pieces ").append(desk.pieces());
        shown.append(" open ").append(desk.open()).append(" orphans ").append(desk.orphans());
        for (int comment = 0; comment < desk.comments(); comment++) {
            shown.append(" comment ").append(desk.rangeOf(comment));
            for (int back = 0; back < Math.min(VERSIONS_LOOKED_AT, desk.version() + 1); back++) {
                shown.append(' ').append(desk.rangeThen(comment, desk.version() - back));
            }
            shown.append(" answers ").append(desk.answer(comment));
        }
        for (int suggestion = 0; hasSuggestion(desk, suggestion); suggestion++) {
            shown.append(" suggestion ").append(desk.stateOf(suggestion)).append(' ').append(desk.overlaps(suggestion));
        }
        for (int suggestion = 0; hasSuggestion(desk, suggestion); suggestion++) {
            try {
                shown.append(" accepted ").append(desk.accept(suggestion)).append(' ').append(document(desk));
            } catch (IllegalStateException refused) {
                shown.append(" not accepted");
            }
        }
        return shown.toString();
    }

    private static boolean hasSuggestion(MarginDesk desk, int suggestion) {
        try {
            desk.stateOf(suggestion);
            return true;
        } catch (IndexOutOfBoundsException none) {
            return false;
        }
    }
}
