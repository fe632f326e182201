import java.util.function.Consumer;
import java.util.function.Supplier;

/** Desks to begin a test with, each made anew by get, and what is known of each one. */
enum Start implements Supplier<MarginDesk> {
    EMPTY("", 0, ranges(), states(), desk -> { }),

    /** Comments open, resolved and orphaned; suggestions in every state, two of them overlapping. */
    BUSY("zbcdef", 12, ranges(3, 206, -1), states(1, 0, 0, 2, 3), Start::makeBusy),

    /** 60 letters; a suggestion that would make 61 of them, and one that leaves 60. */
    FULL(tens("fedcba"), 6, ranges(60, 30, 3060), states(0, 0, 0, 0), Start::makeFull),

    /** No letters any more: 12 orphans, 10 suggestions that are gone. */
    EMPTY_AGAIN("", 7, ranges(-1, -1, -1, -1, -1, -1, -1, -1, -1, -1, -1, -1), states(3, 3, 3, 3, 3, 3, 3, 3, 3, 3),
        Start::makeEmptyAgain),

    TWELVE_COMMENTS("abdefg", 8, ranges(1, 102, -1, 203, 304, 405, 1, 102, -1, 203, 304, 405), states(0),
        Start::makeTwelveComments),

    TEN_SUGGESTIONS("abyyefgh", 11, ranges(8), states(0, 0, 3, 1, 2, 2, 0, 0, 0, 0), Start::makeTenSuggestions),

    /** 299 edits; suggestions that are one edit and two. */
    ONE_EDIT_LEFT("zabcd", 299, ranges(204, -1), states(0, 0, 2), desk -> makeManyEdits(desk, 299)),

    NO_EDIT_LEFT("abcd", 300, ranges(103, -1), states(0, 0, 2), desk -> makeManyEdits(desk, 300)),

    /** 59 letters, 11 comments, 9 suggestions, 299 edits. */
    ONE_OF_EACH_LEFT(tens("fedcb") + "aaaaaaaaa", 299,
        ranges(5, 510, 1015, 1520, 2025, 2530, 3035, 3540, 4045, 4550, 5055), states(0, 0, 0, 0, 2, 0, 0, 0, 0),
        Start::makeOneOfEachLeft),

    /** 60 letters, 12 comments, 10 suggestions, 300 edits. */
    NONE_LEFT("zzzzzfffff" + tens("edcba"), 300,
        ranges(-1, 10, 1015, 1520, 2025, 2530, 3035, 3540, 4045, 4550, 5055, 5560),
        states(0, 0, 0, 2, 0, 0, 0, 0, 0, 0), Start::makeNoneLeft);

    final String document;
    final int length;
    final int version;
    private final int[] ranges;
    final int comments;
    private final int[] states;
    final int suggestions;
    private final Consumer<MarginDesk> calls;

    Start(String document, int version, int[] ranges, int[] states, Consumer<MarginDesk> calls) {
        this.document = document;
        this.length = document.length();
        this.version = version;
        this.ranges = ranges;
        this.comments = ranges.length;
        this.states = states;
        this.suggestions = states.length;
        this.calls = calls;
    }

    @Override
    public MarginDesk get() {
        return Check.desk(calls);
    }

    int range(int comment) {
        return ranges[comment];
    }

    int state(int suggestion) {
        return states[suggestion];
    }

    /** How many comments would be orphans if these letters were taken away, beside those that are. */
    int orphanedBy(int at, int count) {
        int orphaned = 0;
        for (int range : ranges) {
            boolean within = range >= 0 && range / 100 >= at && range % 100 <= at + count;
            orphaned += within ? 1 : 0;
        }
        return orphaned;
    }

    /** The set of the comments in whose range the letter behind this place is. */
    int coverAt(int place) {
        int set = 0;
        for (int comment = 0; comment < comments; comment++) {
            boolean covers = ranges[comment] >= 0 && ranges[comment] / 100 <= place && place < ranges[comment] % 100;
            set |= covers ? 1 << comment : 0;
        }
        return set;
    }

    private static int[] ranges(int... ranges) {
        return ranges;
    }

    private static int[] states(int... states) {
        return states;
    }

    private static String tens(String letters) {
        StringBuilder row = new StringBuilder();
        for (char letter : letters.toCharArray()) {
            row.append(String.valueOf(letter).repeat(10));
        }
        return row.toString();
    }

    /** 60 letters by 6 edits: ten each of f, e, d, c, b, a. */
    static void fill(MarginDesk desk) {
        for (int letter = 0; letter < 6; letter++) {
            desk.insert(0, letter, 10);
        }
    }

    /** Edits at a place, of which each second one undoes the one ahead of it, up to so many in all. */
    static void editUpTo(MarginDesk desk, int edits, boolean insertFirst, int at, int letter) {
        boolean insert = insertFirst;
        for (int edit = desk.version(); edit < edits; edit++) {
            if (insert) {
                desk.insert(at, letter, 1);
            } else {
                desk.remove(at, 1);
            }
            insert = !insert;
        }
    }

    private static void makeBusy(MarginDesk desk) {
        Check.write(desk, 0, "abcdefgh");
        desk.comment(1, 3, 3);
        desk.comment(2, 6, 0);
        desk.comment(7, 8, 1);
        desk.resolve(1);
        desk.answer(0);
        desk.remove(7, 1);
        desk.suggest(0, 1, 25, 1);
        desk.suggest(2, 4, 25, 5);
        desk.suggest(3, 5, 25, 0);
        desk.suggest(5, 6, 25, 2);
        desk.suggest(6, 7, 25, 3);
        desk.accept(0);
        desk.reject(3);
        desk.remove(6, 1);
    }

    private static void makeFull(MarginDesk desk) {
        fill(desk);
        desk.comment(0, 60, 3);
        desk.comment(0, 30, 0);
        desk.comment(30, 60, 1);
        desk.suggest(3, 7, 0, 5);
        desk.suggest(10, 15, 2, 5);
        desk.suggest(20, 25, 1, 0);
        desk.suggest(58, 60, 3, 2);
    }

    private static void makeEmptyAgain(MarginDesk desk) {
        Check.write(desk, 0, "abcdef");
        for (int comment = 0; comment < 12; comment++) {
            desk.comment(comment % 6, 6, comment % 4);
        }
        for (int suggestion = 0; suggestion < 10; suggestion++) {
            desk.suggest(suggestion % 6, 6, suggestion, suggestion % 6);
        }
        desk.resolve(4);
        desk.remove(0, 6);
    }

    private static void makeTwelveComments(MarginDesk desk) {
        Check.write(desk, 0, "abcdefg");
        for (int comment = 0; comment < 12; comment++) {
            desk.comment(comment % 6, comment % 6 + 1, comment % 4);
        }
        desk.suggest(0, 7, 2, 1);
        desk.resolve(0);
        desk.resolve(8);
        desk.answer(3);
        desk.resolve(11);
        desk.remove(2, 1);
    }

    private static void makeTenSuggestions(MarginDesk desk) {
        Check.write(desk, 0, "abcdefgh");
        desk.comment(0, 8, 0);
        for (int suggestion = 0; suggestion < 8; suggestion++) {
            desk.suggest(suggestion, suggestion + 1, 24, (7 - suggestion) / 2);
        }
        desk.suggest(0, 2, 1, 5);
        desk.suggest(4, 6, 1, 3);
        desk.reject(4);
        desk.reject(5);
        desk.remove(2, 1);
        desk.accept(3);
    }

    private static void makeManyEdits(MarginDesk desk, int edits) {
        Check.write(desk, 0, "abcde");
        desk.comment(1, 3, 3);
        desk.comment(4, 5, 0);
        desk.remove(4, 1);
        editUpTo(desk, edits, true, 0, 25);
        desk.suggest(0, 1, 2, 0);
        desk.suggest(1, 2, 2, 1);
        desk.suggest(2, 4, 2, 0);
        desk.reject(2);
    }

    private static void makeOneOfEachLeft(MarginDesk desk) {
        fill(desk);
        desk.remove(59, 1);
        for (int comment = 0; comment < 11; comment++) {
            desk.comment(5 * comment, 5 * comment + 5, comment % 4);
        }
        for (int suggestion = 0; suggestion < 9; suggestion++) {
            desk.suggest(6 * suggestion, 6 * suggestion + 6, suggestion, suggestion % 6);
        }
        desk.reject(4);
        editUpTo(desk, 299, false, 58, 0);
    }

    private static void makeNoneLeft(MarginDesk desk) {
        fill(desk);
        for (int comment = 0; comment < 12; comment++) {
            desk.comment(5 * comment, 5 * comment + 5, comment % 4);
        }
        for (int suggestion = 0; suggestion < 10; suggestion++) {
            desk.suggest(6 * suggestion, 6 * suggestion + 6, suggestion, suggestion % 6);
        }
        desk.reject(3);
        desk.remove(0, 5);
        desk.insert(0, 25, 5);
        editUpTo(desk, 300, false, 59, 0);
    }
}
