import java.util.ArrayList;
import java.util.List;
import java.util.function.Supplier;

/**
 * All that calls can tell of a desk. Each part is told by a desk that is made anew, for two reasons: telling
 * changes the desk (an answer is told by answering), and no desk is used for more than 512 calls.
 */
final class State {
    private static final int CALLS_OF_A_PART = 150;
    private static final int MOST_LETTERS = 60;
    private static final int MOST_EDITS = 300;
    private static final int EDITS_TO_WRITE_ANEW = MOST_EDITS - MOST_LETTERS;

    private State() {
    }

    static List<String> of(Supplier<MarginDesk> make) {
        List<String> told = new ArrayList<>();
        told.add("document: " + document(make.get()));
        told.add("cover: " + cover(make.get()));
        told.add("pieces: " + pieces(make.get()));
        told.add("comments: " + comments(make.get()));
        told.add("answers: " + answers(make.get()));
        told.add("made: " + made(make.get()));
        told.add("suggestions: " + suggestions(make.get()));
        told.add("rejected: " + rejected(make.get()));
        told.add("accepted: " + accepted(make.get(), false));
        told.add("accepted from the last on: " + accepted(make.get(), true));
        told.add("found: " + found(make.get(), Check.document(make.get())));
        quotes(make, told);
        history(make, told);
        // Behind the last edit all places tell the same: that the edit is refused.
        int lastPlace = make.get().version() < MOST_EDITS ? make.get().length() : 0;
        for (int place = 0; place <= lastPlace; place++) {
            told.add("edited at " + place + ": " + edited(make.get(), place));
        }
        return told;
    }

    /** The answer of a call, or the name of what it throws. */
    private static String told(Check.Call call, MarginDesk desk) {
        try {
            return " " + call.answer(desk);
        } catch (RuntimeException thrown) {
            return " " + thrown.getClass().getSimpleName();
        }
    }

    private static String document(MarginDesk desk) {
        return desk.version() + " " + desk.length() + " " + Check.document(desk);
    }

    private static String cover(MarginDesk desk) {
        StringBuilder told = new StringBuilder();
        for (int place = 0; place <= desk.length(); place++) {
            told.append(' ').append(desk.cover(place)).append('/').append(desk.coverByLetters(place));
        }
        return told.toString();
    }

    private static String pieces(MarginDesk desk) {
        StringBuilder told = new StringBuilder();
        int pieces = desk.pieces();
        for (int piece = 0; piece <= pieces; piece++) {
            int number = piece;
            told.append(told(d -> d.pieceAt(number), desk));
        }
        return told.toString();
    }

    private static String comments(MarginDesk desk) {
        return desk.comments() + " open " + desk.open() + " orphans " + desk.orphans() + " ranges" + ranges(desk);
    }

    private static String ranges(MarginDesk desk) {
        StringBuilder told = new StringBuilder();
        int comments = desk.comments();
        for (int comment = 0; comment < comments; comment++) {
            told.append(' ').append(desk.rangeOf(comment));
        }
        return told.toString();
    }

    private static String answers(MarginDesk desk) {
        StringBuilder told = new StringBuilder();
        int comments = desk.comments();
        for (int comment = 0; comment < comments; comment++) {
            told.append(' ').append(desk.resolve(comment)).append(' ').append(desk.answer(comment));
        }
        return told.toString();
    }

    private static String made(MarginDesk desk) {
        return told(d -> d.comment(0, 1, 0), desk) + told(d -> d.suggest(0, 1, 0, 0), desk);
    }

    private static String suggestions(MarginDesk desk) {
        StringBuilder told = new StringBuilder();
        for (int suggestion = 0; suggestion <= 10; suggestion++) {
            int number = suggestion;
            told.append(told(d -> d.stateOf(number), desk)).append(told(d -> d.overlaps(number), desk));
        }
        return told.toString();
    }

    private static String rejected(MarginDesk desk) {
        StringBuilder told = new StringBuilder();
        for (int suggestion = 0; suggestion <= 10; suggestion++) {
            int number = suggestion;
            told.append(told(d -> d.reject(number), desk));
        }
        return told + suggestions(desk);
    }

    private static String accepted(MarginDesk desk, boolean fromTheLast) {
        StringBuilder told = new StringBuilder();
        for (int suggestion = 0; suggestion <= 10; suggestion++) {
            int number = fromTheLast ? 10 - suggestion : suggestion;
            told.append(told(d -> d.accept(number), desk));
        }
        return told + " " + document(desk) + ranges(desk);
    }

    /** What the comments keep shows when all letters are gone, and others stand there that they may be found in. */
    private static String found(MarginDesk desk, String letters) {
        StringBuilder told = new StringBuilder(told(d -> d.remove(0, d.length()), desk));
        for (int i = 0; i < letters.length(); i++) {
            int place = i;
            told.append(told(d -> d.insert(place, letters.charAt(place) - 'a', 1), desk));
        }
        int comments = desk.comments();
        for (int comment = 0; comment < comments; comment++) {
            int number = comment;
            told.append(told(d -> d.find(number), desk));
        }
        return told + ranges(desk);
    }

    /**
     * The letters around those that a comment keeps show when its letters stand at two places that have
     * some of them. If it kept another letter there, it would be found at the other place.
     */
    private static void quotes(Supplier<MarginDesk> make, List<String> told) {
        String document = Check.document(make.get());
        int comments = make.get().version() < EDITS_TO_WRITE_ANEW ? make.get().comments() : 0;
        for (int comment = 0; comment < comments; comment++) {
            int range = make.get().rangeOf(comment);
            if (range != MarginDesk.NONE) {
                String letters = document.substring(range / 100, range % 100);
                String ahead = range / 100 > 0 ? document.substring(range / 100 - 1, range / 100) : "";
                String behind = range % 100 < document.length() ? document.substring(range % 100, range % 100 + 1) : "";
                for (String then : List.of("q" + letters + "q" + letters + behind, "q" + letters + "q" + ahead + letters + "q",
                        letters + "q" + letters + behind, ahead + letters + "q" + letters)) {
                    told.add("comment " + comment + " in " + then + ": " + foundIn(make, then));
                }
            }
        }
    }

    private static String foundIn(Supplier<MarginDesk> make, String letters) {
        return letters.length() <= MOST_LETTERS ? found(make.get(), letters) : "";
    }

    /** Stickiness, and where suggestions are, show when letters are put in at a place. */
    private static String edited(MarginDesk desk, int place) {
        boolean full = desk.length() == MOST_LETTERS;
        String room = full ? told(d -> d.remove(place < MOST_LETTERS ? MOST_LETTERS - 1 : 0, 1), desk) : "";
        int at = Math.min(place, desk.length());
        String put = told(d -> d.insert(at, 24, 1), desk);
        return room + put + " " + desk.coverByLetters(at) + ranges(desk) + accepted(desk, false);
    }

    private static void history(Supplier<MarginDesk> make, List<String> told) {
        MarginDesk desk = make.get();
        int comments = desk.comments();
        int versions = desk.version() + 1;
        for (int first = 0; first < comments * versions; first += CALLS_OF_A_PART) {
            StringBuilder part = new StringBuilder("history from " + first + " on:");
            MarginDesk fresh = make.get();
            for (int i = first; i < Math.min(first + CALLS_OF_A_PART, comments * versions); i++) {
                part.append(' ').append(fresh.rangeThen(i / versions, i % versions));
            }
            told.add(part.toString());
        }
    }
}
