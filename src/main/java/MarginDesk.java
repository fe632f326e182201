import java.util.Arrays;

/** A commenting layer over a changing document; README.md tells how to use it. */
public final class MarginDesk {
    public static final int NONE = -1;
    public static final int WAITING = 0, ACCEPTED = 1, REJECTED = 2, GONE = 3;

    private static final int MOST_LETTERS = 60;
    private static final int GREATEST_LETTER = 25;
    private static final int MOST_INSERTED = 10;
    private static final int MOST_EDITS = 300;
    private static final int MOST_COMMENTS = 12;
    private static final int MOST_SUGGESTIONS = 10;
    private static final int MOST_SUGGESTED = 5;
    // A row of ranges serves the comments or the suggestions: the greater of both limits.
    private static final int MOST_RANGES = 12;
    private static final int STICKY_NOWHERE = 0, STICKY_BEGINNING = 1, STICKY_END = 2, STICKY_BOTH = 3;

    private final Text text = new Text();
    private final Ranges commentRanges = new Ranges();
    private final Quotes quotes = new Quotes();
    private final History history = new History();
    private final int[] answerCounts = new int[MOST_COMMENTS];
    private int openSet = 0;
    private int edits = 0;

    private final Ranges suggestionRanges = new Ranges();
    private final int[] suggestedLetters = new int[MOST_SUGGESTIONS];
    private final int[] suggestedCounts = new int[MOST_SUGGESTIONS];
    private final int[] states = new int[MOST_SUGGESTIONS];

    public MarginDesk() {
    }

    // ---- the document

    public int insert(int at, int letter, int count)
            throws IndexOutOfBoundsException, IllegalArgumentException, IllegalStateException {
        checkPlace(at);
        checkLetter(letter);
        checkAmong(count, 1, MOST_INSERTED);
        checkRoom(count, 1);
        putLettersIn(at, letter, count);
        return text.size;
    }

    public int remove(int at, int count)
            throws IndexOutOfBoundsException, IllegalArgumentException, IllegalStateException {
        checkPlace(at);
        checkAmong(count, 1, text.size - at);
        checkRoom(-count, 1);
        return takeLettersOut(at, count);
    }

    public int length() {
        return text.size;
    }

    public int letterAt(int place) throws IndexOutOfBoundsException {
        checkPlace(place);
        return text.letterBehind(place);
    }

    public int version() {
        return edits;
    }

    // ---- comments

    public int comment(int from, int to, int sticky)
            throws IndexOutOfBoundsException, IllegalArgumentException, IllegalStateException {
        checkRange(from, to);
        checkAmong(sticky, STICKY_NOWHERE, STICKY_BOTH);
        if (commentRanges.count >= MOST_COMMENTS) {
            throw new IllegalStateException("there are 12 comments");
        }
        int made = commentRanges.add(from, to, sticky);
        quotes.keep(made, text, from, to);
        text.mark(from, to, bit(made));
        openSet |= bit(made);
        return made;
    }

    public int answer(int comment) throws IndexOutOfBoundsException {
        checkComment(comment);
        openSet |= bit(comment);
        answerCounts[comment]++;
        return answerCounts[comment];
    }

    public boolean resolve(int comment) throws IndexOutOfBoundsException {
        checkComment(comment);
        boolean wasOpen = (openSet & bit(comment)) != 0;
        openSet &= ~bit(comment);
        return wasOpen;
    }

    public int find(int comment) throws IndexOutOfBoundsException, IllegalStateException {
        checkComment(comment);
        if (!commentRanges.isGone(comment)) {
            throw new IllegalStateException("the comment is no orphan");
        }
        int from = quotes.bestPlace(comment, text);
        if (from != NONE) {
            int to = from + quotes.sizeOf(comment);
            commentRanges.bringBack(comment, from, to);
            text.mark(from, to, bit(comment));
        }
        return from;
    }

    public int comments() {
        return commentRanges.count;
    }

    public int rangeOf(int comment) throws IndexOutOfBoundsException {
        checkComment(comment);
        return commentRanges.asNumber(comment);
    }

    public int rangeThen(int comment, int version) throws IndexOutOfBoundsException {
        checkComment(comment);
        if (version < 0 || version > edits) {
            throw new IndexOutOfBoundsException("no such version");
        }
        // The version that is now has not been left, so it is not in the history.
        return version == edits ? commentRanges.asNumber(comment) : history.rangeAt(version, comment);
    }

    public int open() {
        return openSet;
    }

    public int orphans() {
        int set = 0;
        for (int comment = 0; comment < commentRanges.count; comment++) {
            if (commentRanges.isGone(comment)) {
                set |= bit(comment);
            }
        }
        return set;
    }

    // ---- pieces

    public int cover(int place) throws IndexOutOfBoundsException {
        checkPlace(place);
        return commentRanges.covering(place);
    }

    public int coverByLetters(int place) throws IndexOutOfBoundsException {
        checkPlace(place);
        return text.marksBehind(place);
    }

    public int pieces() {
        int begun = 0;
        for (int place = 0; place < text.size; place++) {
            if (beginsPiece(place)) {
                begun++;
            }
        }
        return begun;
    }

    public int pieceAt(int piece) throws IndexOutOfBoundsException {
        int begun = 0;
        for (int place = 0; place < text.size; place++) {
            if (beginsPiece(place)) {
                if (begun == piece) {
                    return place;
                }
                begun++;
            }
        }
        throw new IndexOutOfBoundsException("no such piece");
    }

    // ---- suggestions

    public int suggest(int from, int to, int letter, int count)
            throws IndexOutOfBoundsException, IllegalArgumentException, IllegalStateException {
        checkRange(from, to);
        checkLetter(letter);
        checkAmong(count, 0, MOST_SUGGESTED);
        if (suggestionRanges.count >= MOST_SUGGESTIONS) {
            throw new IllegalStateException("there are 10 suggestions");
        }
        int made = suggestionRanges.add(from, to, STICKY_NOWHERE);
        suggestedLetters[made] = letter;
        suggestedCounts[made] = count;
        states[made] = WAITING;
        return made;
    }

    public int accept(int suggestion) throws IndexOutOfBoundsException, IllegalStateException {
        checkSuggestion(suggestion);
        checkWaiting(suggestion);
        if (overlapping(suggestion) != 0) {
            throw new IllegalStateException("the suggestion overlaps another one");
        }
        int from = suggestionRanges.begins[suggestion];
        int taken = suggestionRanges.ends[suggestion] - from;
        int put = suggestedCounts[suggestion];
        checkRoom(put - taken, put == 0 ? 1 : 2);
        // Before its letters go: a suggestion that is not waiting can't become GONE by that.
        states[suggestion] = ACCEPTED;
        takeLettersOut(from, taken);
        if (put > 0) {
            putLettersIn(from, suggestedLetters[suggestion], put);
        }
        return text.size;
    }

    public int reject(int suggestion) throws IndexOutOfBoundsException, IllegalStateException {
        checkSuggestion(suggestion);
        checkWaiting(suggestion);
        states[suggestion] = REJECTED;
        return countWaiting();
    }

    public int stateOf(int suggestion) throws IndexOutOfBoundsException {
        checkSuggestion(suggestion);
        return states[suggestion];
    }

    public int overlaps(int suggestion) throws IndexOutOfBoundsException {
        checkSuggestion(suggestion);
        return overlapping(suggestion);
    }

    // ---- what the calls refuse

    private void checkPlace(int place) {
        if (place < 0 || place > text.size) {
            throw new IndexOutOfBoundsException("no such place");
        }
    }

    private void checkRange(int from, int to) {
        checkPlace(from);
        checkPlace(to);
        if (to <= from) {
            throw new IllegalArgumentException("the end is not later than the beginning");
        }
    }

    private void checkLetter(int letter) {
        checkAmong(letter, 0, GREATEST_LETTER);
    }

    private void checkAmong(int number, int least, int greatest) {
        if (number < least || number > greatest) {
            throw new IllegalArgumentException("an argument is out of its range");
        }
    }

    private void checkComment(int comment) {
        if (comment < 0 || comment >= commentRanges.count) {
            throw new IndexOutOfBoundsException("no such comment");
        }
    }

    private void checkSuggestion(int suggestion) {
        if (suggestion < 0 || suggestion >= suggestionRanges.count) {
            throw new IndexOutOfBoundsException("no such suggestion");
        }
    }

    private void checkWaiting(int suggestion) {
        if (states[suggestion] != WAITING) {
            throw new IllegalStateException("the suggestion is not waiting");
        }
    }

    private void checkRoom(int moreLetters, int moreEdits) {
        if (text.size + moreLetters > MOST_LETTERS) {
            throw new IllegalStateException("the document would have more than 60 letters");
        }
        if (edits + moreEdits > MOST_EDITS) {
            throw new IllegalStateException("there would be more than 300 edits");
        }
    }

    // ---- edits

    private void putLettersIn(int at, int letter, int count) {
        leaveVersion();
        commentRanges.moveByInsertion(at, count);
        suggestionRanges.moveByInsertion(at, count);
        text.putIn(at, letter, count);
        // The ranges have moved: those that reach over the first new letter reach over all of them.
        text.mark(at, at + count, commentRanges.covering(at));
    }

    /** Answers how many comments become orphans. */
    private int takeLettersOut(int at, int count) {
        leaveVersion();
        int orphaned = commentRanges.moveByRemoval(at, count);
        letGo(suggestionRanges.moveByRemoval(at, count));
        text.takeOut(at, count);
        return Integer.bitCount(orphaned);
    }

    private void leaveVersion() {
        history.write(edits, commentRanges);
        edits++;
    }

    private void letGo(int suggestionSet) {
        for (int suggestion = 0; suggestion < suggestionRanges.count; suggestion++) {
            if ((suggestionSet & bit(suggestion)) != 0 && states[suggestion] == WAITING) {
                states[suggestion] = GONE;
            }
        }
    }

    // ---- looking

    private static int bit(int number) {
        return 1 << number;
    }

    private boolean beginsPiece(int place) {
        return place == 0 || commentRanges.covering(place) != commentRanges.covering(place - 1);
    }

    private int overlapping(int suggestion) {
        if (states[suggestion] != WAITING) {
            return 0;
        }
        int set = 0;
        for (int other = 0; other < suggestionRanges.count; other++) {
            if (other != suggestion && states[other] == WAITING && suggestionRanges.share(suggestion, other)) {
                set |= bit(other);
            }
        }
        return set;
    }

    private int countWaiting() {
        int waiting = 0;
        for (int suggestion = 0; suggestion < suggestionRanges.count; suggestion++) {
            if (states[suggestion] == WAITING) {
                waiting++;
            }
        }
        return waiting;
    }

    /** The letters of the document, each with the set of comments that it came to. */
    private static final class Text {
        private final int[] letters = new int[MOST_LETTERS];
        private final int[] marks = new int[MOST_LETTERS];
        private int size = 0;

        private boolean hasLetterBehind(int place) {
            return place >= 0 && place < size;
        }

        private int letterBehind(int place) {
            return hasLetterBehind(place) ? letters[place] : NONE;
        }

        private int marksBehind(int place) {
            return hasLetterBehind(place) ? marks[place] : 0;
        }

        private void putIn(int at, int letter, int count) {
            moveTail(at, at + count);
            Arrays.fill(letters, at, at + count, letter);
            Arrays.fill(marks, at, at + count, 0);
        }

        private void takeOut(int at, int count) {
            moveTail(at + count, at);
        }

        private void moveTail(int from, int to) {
            int tail = size - from;
            System.arraycopy(letters, from, letters, to, tail);
            System.arraycopy(marks, from, marks, to, tail);
            size = to + tail;
        }

        private void mark(int from, int to, int set) {
            for (int place = from; place < to; place++) {
                marks[place] |= set;
            }
        }
    }

    /** Ranges that move with edits. One that is gone has no ends, and no edit brings it back. */
    private static final class Ranges {
        private final int[] begins = new int[MOST_RANGES];
        private final int[] ends = new int[MOST_RANGES];
        private final int[] stickiness = new int[MOST_RANGES];
        private int count = 0;

        private int add(int from, int to, int sticky) {
            int added = count;
            begins[added] = from;
            ends[added] = to;
            stickiness[added] = sticky;
            count++;
            return added;
        }

        private void bringBack(int range, int from, int to) {
            begins[range] = from;
            ends[range] = to;
        }

        private boolean isGone(int range) {
            return begins[range] == NONE;
        }

        private int asNumber(int range) {
            return isGone(range) ? NONE : 100 * begins[range] + ends[range];
        }

        /** The set of the ranges that reach over the letter behind a place. */
        private int covering(int place) {
            int set = 0;
            for (int range = 0; range < count; range++) {
                if (begins[range] <= place && place < ends[range]) {
                    set |= bit(range);
                }
            }
            return set;
        }

        private boolean share(int one, int other) {
            return Math.max(begins[one], begins[other]) < Math.min(ends[one], ends[other]);
        }

        private void moveByInsertion(int at, int letters) {
            for (int range = 0; range < count; range++) {
                if (!isGone(range)) {
                    boolean beginStays = (stickiness[range] & STICKY_BEGINNING) != 0;
                    boolean endStays = (stickiness[range] & STICKY_END) == 0;
                    begins[range] = behindInsertion(begins[range], at, letters, beginStays);
                    ends[range] = behindInsertion(ends[range], at, letters, endStays);
                }
            }
        }

        private static int behindInsertion(int end, int at, int letters, boolean stays) {
            boolean moves = end > at || end == at && !stays;
            return moves ? end + letters : end;
        }

        /** Answers the set of the ranges that are gone by it. */
        private int moveByRemoval(int at, int letters) {
            int gone = 0;
            for (int range = 0; range < count; range++) {
                if (!isGone(range)) {
                    begins[range] = behindRemoval(begins[range], at, letters);
                    ends[range] = behindRemoval(ends[range], at, letters);
                    if (begins[range] == ends[range]) {
                        begins[range] = NONE;
                        ends[range] = NONE;
                        gone |= bit(range);
                    }
                }
            }
            return gone;
        }

        private static int behindRemoval(int end, int at, int letters) {
            return end > at ? Math.max(at, end - letters) : end;
        }
    }

    /** What each comment keeps of the document as it was when the comment was made. */
    private static final class Quotes {
        private final int[] letters = new int[MOST_COMMENTS * MOST_LETTERS];
        private final int[] sizes = new int[MOST_COMMENTS];
        private final int[] aheads = new int[MOST_COMMENTS];
        private final int[] behinds = new int[MOST_COMMENTS];

        private void keep(int comment, Text text, int from, int to) {
            sizes[comment] = to - from;
            System.arraycopy(text.letters, from, letters, comment * MOST_LETTERS, to - from);
            aheads[comment] = text.letterBehind(from - 1);
            behinds[comment] = text.letterBehind(to);
        }

        private int sizeOf(int comment) {
            return sizes[comment];
        }

        /** The lowest place of those with the greatest fit; NONE if the letters stand nowhere. */
        private int bestPlace(int comment, Text text) {
            int best = NONE;
            int bestFit = 0;
            for (int place = 0; place <= text.size - sizes[comment]; place++) {
                if (standsAt(comment, text, place)) {
                    int fit = fitAt(comment, text, place);
                    if (best == NONE || fit > bestFit) {
                        best = place;
                        bestFit = fit;
                    }
                }
            }
            return best;
        }

        private boolean standsAt(int comment, Text text, int place) {
            for (int i = 0; i < sizes[comment]; i++) {
                if (letters[comment * MOST_LETTERS + i] != text.letters[place + i]) {
                    return false;
                }
            }
            return true;
        }

        private int fitAt(int comment, Text text, int place) {
            int ahead = text.letterBehind(place - 1);
            int behind = text.letterBehind(place + sizes[comment]);
            return (ahead == aheads[comment] ? 1 : 0) + (behind == behinds[comment] ? 1 : 0);
        }
    }

    /** Where every comment was when a version was left; the comments not made by then were nowhere. */
    private static final class History {
        private final int[] ranges = new int[MOST_EDITS * MOST_COMMENTS];

        private void write(int version, Ranges now) {
            for (int comment = 0; comment < MOST_COMMENTS; comment++) {
                boolean made = comment < now.count;
                ranges[version * MOST_COMMENTS + comment] = made ? now.asNumber(comment) : NONE;
            }
        }

        private int rangeAt(int version, int comment) {
            return ranges[version * MOST_COMMENTS + comment];
        }
    }
}
