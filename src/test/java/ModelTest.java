import java.util.ArrayList;
import java.util.Arrays;
import java.util.List;

/**
 * Long runs of calls, on MarginDesk and on a model beside it. The model holds no range: each letter
 * knows which comments and suggestions it is in, and the ranges are read off the letters.
 */
final class ModelTest {
    private static final int RUNS = 6000;
    private static final int CALLS = 512;
    private static final String[] CALL_NAMES = {
        "insert", "remove", "length", "letterAt", "version", "comment", "answer", "resolve", "find", "comments",
        "rangeOf", "rangeThen", "open", "orphans", "cover", "coverByLetters", "pieces", "pieceAt", "suggest",
        "accept", "reject", "stateOf", "overlaps"
    };
    private static final int[] CALL_PARAMETERS = {3, 2, 0, 1, 0, 3, 1, 1, 1, 0, 1, 2, 0, 0, 1, 1, 0, 1, 4, 1, 1, 1, 1};
    // Each kind of run makes some calls more often, so that every limit is reached by some of them.
    private static final int[][] WEIGHTS = {
        {9, 7, 1, 2, 1, 3, 2, 2, 6, 1, 3, 5, 1, 1, 3, 3, 2, 3, 3, 4, 1, 2, 2},
        {90, 90, 1, 1, 1, 2, 1, 1, 5, 1, 2, 3, 1, 1, 1, 1, 1, 1, 2, 3, 1, 1, 1},
        {12, 1, 1, 1, 1, 2, 1, 1, 2, 1, 2, 2, 1, 1, 2, 2, 1, 2, 2, 2, 1, 1, 2},
        {4, 6, 1, 1, 1, 4, 1, 1, 12, 1, 3, 3, 1, 1, 2, 2, 1, 1, 5, 4, 1, 3, 3}
    };
    private static final int[] EXTREMES = {Integer.MIN_VALUE, Integer.MAX_VALUE, -1, 61, 300, 301, 1 << 30};

    private static final long NO_SUCH = Long.MAX_VALUE - 1;
    private static final long WRONG_ARGUMENT = Long.MAX_VALUE - 2;
    private static final long WRONG_STATE = Long.MAX_VALUE - 3;
    private static final int[] reached = new int[CALL_NAMES.length * 4];

    public static void main(String[] args) {
        int wrongRuns = 0;
        for (int run = 0; run < RUNS && wrongRuns < 3; run++) {
            wrongRuns += compare(run) ? 0 : 1;
        }
        everyOutcomeWasReached();
        Check.end("ModelTest");
    }

    private static boolean compare(int run) {
        Numbers numbers = new Numbers(run);
        int[] weights = WEIGHTS[run % WEIGHTS.length];
        int letterKinds = run % 3 == 0 ? 2 : run % 3 == 1 ? 4 : 26;
        MarginDesk desk = new MarginDesk();
        Model model = new Model();
        StringBuilder told = new StringBuilder();
        for (int i = 0; i < CALLS; i++) {
            int call = numbers.weighted(weights);
            int[] a = arguments(call, numbers, model, letterKinds);
            long due = model.call(call, a);
            long got = answer(desk, call, a);
            note(call, due);
            told.append(CALL_NAMES[call]).append(Arrays.toString(a)).append(" -> ").append(show(got)).append('\n');
            if (due != got) {
                Check.fail("run " + run + ":\n" + told + "due is " + show(due));
                return false;
            }
        }
        return true;
    }

    private static String show(long answer) {
        return answer == NO_SUCH ? "no such" : answer == WRONG_ARGUMENT ? "wrong argument"
            : answer == WRONG_STATE ? "wrong state" : Long.toString(answer);
    }

    private static void note(int call, long due) {
        int outcome = due == NO_SUCH ? 1 : due == WRONG_ARGUMENT ? 2 : due == WRONG_STATE ? 3 : 0;
        reached[4 * call + outcome]++;
    }

    private static void everyOutcomeWasReached() {
        for (int call = 0; call < CALL_NAMES.length; call++) {
            boolean arguments = CALL_NAMES[call].matches("insert|remove|comment|suggest");
            boolean states = arguments || CALL_NAMES[call].matches("find|accept|reject");
            Check.due(CALL_NAMES[call] + " answered", true, reached[4 * call] > 0);
            Check.due(CALL_NAMES[call] + " refused a number", CALL_PARAMETERS[call] > 0, reached[4 * call + 1] > 0);
            Check.due(CALL_NAMES[call] + " refused an argument", arguments, reached[4 * call + 2] > 0);
            Check.due(CALL_NAMES[call] + " refused in a state", states, reached[4 * call + 3] > 0);
        }
    }

    /** Arguments that are mostly in their ranges or one beside them. */
    private static int[] arguments(int call, Numbers numbers, Model model, int letterKinds) {
        int[] a = new int[CALL_PARAMETERS[call]];
        int length = model.letters.size();
        int[] greatest;
        switch (CALL_NAMES[call]) {
            case "insert": greatest = new int[] {length, letterKinds - 1, numbers.below(4) == 0 ? 10 : 3}; break;
            case "remove": greatest = new int[] {length, numbers.below(12) == 0 ? length : 4}; break;
            case "comment": greatest = new int[] {length, length, 3}; break;
            case "suggest": greatest = new int[] {length, length, letterKinds - 1, 5}; break;
            case "letterAt": case "cover": case "coverByLetters": greatest = new int[] {length}; break;
            case "rangeThen": greatest = new int[] {model.made.size() - 1, model.version}; break;
            case "pieceAt": greatest = new int[] {(int) model.pieces() - 1}; break;
            case "accept": case "reject": case "stateOf": case "overlaps":
                greatest = new int[] {model.suggested.size() - 1}; break;
            default: greatest = new int[] {model.made.size() - 1}; break;
        }
        for (int i = 0; i < a.length; i++) {
            a[i] = numbers.below(40) == 0 ? EXTREMES[numbers.below(EXTREMES.length)]
                : numbers.below(30) == 0 ? greatest[i] + 1 : numbers.below(Math.max(greatest[i], 0) + 1);
        }
        boolean isRange = CALL_NAMES[call].equals("comment") || CALL_NAMES[call].equals("suggest");
        if (isRange && a[0] > a[1] && numbers.below(8) != 0) {
            int from = a[1];
            a[1] = a[0];
            a[0] = from;
        }
        return a;
    }

    private static long answer(MarginDesk desk, int call, int[] a) {
        try {
            switch (CALL_NAMES[call]) {
                case "insert": return desk.insert(a[0], a[1], a[2]);
                case "remove": return desk.remove(a[0], a[1]);
                case "length": return desk.length();
                case "letterAt": return desk.letterAt(a[0]);
                case "version": return desk.version();
                case "comment": return desk.comment(a[0], a[1], a[2]);
                case "answer": return desk.answer(a[0]);
                case "resolve": return desk.resolve(a[0]) ? 1 : 0;
                case "find": return desk.find(a[0]);
                case "comments": return desk.comments();
                case "rangeOf": return desk.rangeOf(a[0]);
                case "rangeThen": return desk.rangeThen(a[0], a[1]);
                case "open": return desk.open();
                case "orphans": return desk.orphans();
                case "cover": return desk.cover(a[0]);
                case "coverByLetters": return desk.coverByLetters(a[0]);
                case "pieces": return desk.pieces();
                case "pieceAt": return desk.pieceAt(a[0]);
                case "suggest": return desk.suggest(a[0], a[1], a[2], a[3]);
                case "accept": return desk.accept(a[0]);
                case "reject": return desk.reject(a[0]);
                case "stateOf": return desk.stateOf(a[0]);
                default: return desk.overlaps(a[0]);
            }
        } catch (RuntimeException thrown) {
            if (!Check.isOwn(thrown)) {
                Check.fail(CALL_NAMES[call] + " let the machine throw " + thrown);
            }
            return thrown.getClass() == Check.NO_SUCH ? NO_SUCH
                : thrown.getClass() == Check.WRONG_ARGUMENT ? WRONG_ARGUMENT
                : thrown.getClass() == Check.WRONG_STATE ? WRONG_STATE : Long.MAX_VALUE;
        }
    }

    /** Numbers that look like chance, the same ones in every run of the test. */
    private static final class Numbers {
        private long state;

        Numbers(long seed) {
            state = seed * 0x9E3779B97F4A7C15L + 1;
        }

        int below(int bound) {
            state = state * 6364136223846793005L + 1442695040888963407L;
            return (int) ((state >>> 33) % bound);
        }

        int weighted(int[] weights) {
            int sum = 0;
            for (int weight : weights) {
                sum += weight;
            }
            int left = below(sum);
            int index = 0;
            while (left >= weights[index]) {
                left -= weights[index];
                index++;
            }
            return index;
        }
    }

    private static final class Letter {
        final int kind;
        long comments = 0;
        long suggestions = 0;

        Letter(int kind) {
            this.kind = kind;
        }
    }

    private static final class Made {
        int sticky;
        String kept;
        boolean open = true;
        int answers = 0;
    }

    private static final class Suggested {
        int letter;
        int count;
        int state = 0;
    }

    private static final class Model {
        final List<Letter> letters = new ArrayList<>();
        final List<Made> made = new ArrayList<>();
        final List<Suggested> suggested = new ArrayList<>();
        final List<long[]> then = new ArrayList<>();
        int version = 0;

        Model() {
            then.add(new long[12]);
            remember();
        }

        long call(int call, int[] a) {
            long answer = answer(CALL_NAMES[call], a);
            remember();
            return answer;
        }

        /** The version that is now is told anew behind every call. */
        private void remember() {
            long[] ranges = new long[12];
            for (int comment = 0; comment < 12; comment++) {
                ranges[comment] = comment < made.size() ? range(comment) : -1;
            }
            then.set(version, ranges);
        }

        private void nextVersion() {
            version++;
            then.add(new long[12]);
            remember();
        }

        private long answer(String call, int[] a) {
            switch (call) {
                case "insert": return insert(a[0], a[1], a[2]);
                case "remove": return remove(a[0], a[1]);
                case "length": return letters.size();
                case "letterAt": return !place(a[0]) ? NO_SUCH : a[0] == letters.size() ? -1 : letters.get(a[0]).kind;
                case "version": return version;
                case "comment": return comment(a[0], a[1], a[2]);
                case "comments": return made.size();
                case "open": return open();
                case "orphans": return orphans();
                case "cover": return !place(a[0]) ? NO_SUCH : coverByRanges(a[0]);
                case "coverByLetters": return !place(a[0]) ? NO_SUCH : a[0] == letters.size() ? 0 : letters.get(a[0]).comments;
                case "pieces": return pieces();
                case "pieceAt": return pieceAt(a[0]);
                case "suggest": return suggest(a[0], a[1], a[2], a[3]);
                case "accept": case "reject": case "stateOf": case "overlaps":
                    return a[0] < 0 || a[0] >= suggested.size() ? NO_SUCH : ofSuggestion(call, a[0]);
                default:
                    return a[0] < 0 || a[0] >= made.size() ? NO_SUCH : ofComment(call, a);
            }
        }

        private long ofComment(String call, int[] a) {
            Made comment = made.get(a[0]);
            switch (call) {
                case "answer": comment.open = true; return ++comment.answers;
                case "resolve": boolean was = comment.open; comment.open = false; return was ? 1 : 0;
                case "find": return find(a[0]);
                case "rangeOf": return range(a[0]);
                default: return a[1] < 0 || a[1] > version ? NO_SUCH : then.get(a[1])[a[0]];
            }
        }

        private long ofSuggestion(String call, int number) {
            Suggested suggestion = suggested.get(number);
            boolean waits = suggestion.state == 0;
            switch (call) {
                case "accept": return !waits || overlaps(number) != 0 ? WRONG_STATE : accept(number);
                case "stateOf": return suggestion.state;
                case "overlaps": return overlaps(number);
                default:
                    if (!waits) {
                        return WRONG_STATE;
                    }
                    suggestion.state = 2;
                    return suggested.stream().filter(s -> s.state == 0).count();
            }
        }

        private boolean place(int place) {
            return 0 <= place && place <= letters.size();
        }

        private long range(int comment) {
            int first = -1;
            int last = -1;
            for (int i = 0; i < letters.size(); i++) {
                if ((letters.get(i).comments >> comment & 1) == 1) {
                    first = first < 0 ? i : first;
                    last = i;
                }
            }
            return first < 0 ? -1 : 100 * first + last + 1;
        }

        private long coverByRanges(int place) {
            long set = 0;
            for (int comment = 0; comment < made.size(); comment++) {
                long range = range(comment);
                if (range >= 0 && range / 100 <= place && place < range % 100) {
                    set |= 1L << comment;
                }
            }
            return set;
        }

        private long insert(int at, int letter, int count) {
            if (!place(at)) {
                return NO_SUCH;
            }
            if (letter < 0 || letter > 25 || count < 1 || count > 10) {
                return WRONG_ARGUMENT;
            }
            if (letters.size() + count > 60 || version >= 300) {
                return WRONG_STATE;
            }
            put(at, letter, count);
            return letters.size();
        }

        /** New letters come to whatever reaches over both neighbours, or is sticky on their side. */
        private void put(int at, int kind, int count) {
            long left = at == 0 ? 0 : letters.get(at - 1).comments;
            long right = at == letters.size() ? 0 : letters.get(at).comments;
            long comments = left & right;
            for (int comment = 0; comment < made.size(); comment++) {
                boolean atBeginning = (right & ~left & 1L << comment) != 0;
                boolean atEnd = (left & ~right & 1L << comment) != 0;
                int sticky = made.get(comment).sticky;
                if (atBeginning && (sticky == 1 || sticky == 3) || atEnd && sticky >= 2) {
                    comments |= 1L << comment;
                }
            }
            long suggestions = at == 0 || at == letters.size() ? 0
                : letters.get(at - 1).suggestions & letters.get(at).suggestions;
            for (int i = 0; i < count; i++) {
                Letter letter = new Letter(kind);
                letter.comments = comments;
                letter.suggestions = suggestions;
                letters.add(at, letter);
            }
            nextVersion();
        }

        private long remove(int at, int count) {
            if (!place(at)) {
                return NO_SUCH;
            }
            if (count < 1 || count > letters.size() - at) {
                return WRONG_ARGUMENT;
            }
            return version >= 300 ? WRONG_STATE : take(at, count);
        }

        private long take(int at, int count) {
            long before = Long.bitCount(orphans());
            letters.subList(at, at + count).clear();
            for (int s = 0; s < suggested.size(); s++) {
                if (suggested.get(s).state == 0 && lettersOf(s) == 0) {
                    suggested.get(s).state = 3;
                }
            }
            nextVersion();
            return Long.bitCount(orphans()) - before;
        }

        private long lettersOf(int suggestion) {
            return letters.stream().filter(l -> (l.suggestions >> suggestion & 1) == 1).count();
        }

        private long comment(int from, int to, int sticky) {
            if (!place(from) || !place(to)) {
                return NO_SUCH;
            }
            if (to <= from || sticky < 0 || sticky > 3) {
                return WRONG_ARGUMENT;
            }
            if (made.size() == 12) {
                return WRONG_STATE;
            }
            Made comment = new Made();
            comment.sticky = sticky;
            comment.kept = framed().substring(from, to + 2);
            made.add(comment);
            reachOver(made.size() - 1, from, to);
            return made.size() - 1;
        }

        private void reachOver(int comment, int from, int to) {
            for (int i = from; i < to; i++) {
                letters.get(i).comments |= 1L << comment;
            }
        }

        /** The document between two signs that stand for no letter. */
        private String framed() {
            StringBuilder text = new StringBuilder("#");
            letters.forEach(letter -> text.append((char) ('a' + letter.kind)));
            return text.append('#').toString();
        }

        private long find(int number) {
            if (range(number) >= 0) {
                return WRONG_STATE;
            }
            String kept = made.get(number).kept;
            int size = kept.length() - 2;
            String text = framed();
            for (int fit = 2; fit >= 0; fit--) {
                for (int place = 0; place + size <= letters.size(); place++) {
                    String there = text.substring(place, place + size + 2);
                    int fits = (there.charAt(0) == kept.charAt(0) ? 1 : 0)
                        + (there.charAt(size + 1) == kept.charAt(size + 1) ? 1 : 0);
                    if (fits == fit && there.regionMatches(1, kept, 1, size)) {
                        reachOver(number, place, place + size);
                        return place;
                    }
                }
            }
            return -1;
        }

        private long open() {
            long set = 0;
            for (int comment = 0; comment < made.size(); comment++) {
                set |= made.get(comment).open ? 1L << comment : 0;
            }
            return set;
        }

        private long orphans() {
            long set = (1L << made.size()) - 1;
            for (Letter letter : letters) {
                set &= ~letter.comments;
            }
            return set;
        }

        private List<Integer> pieceBeginnings() {
            List<Integer> beginnings = new ArrayList<>();
            long last = -1;
            for (int i = 0; i < letters.size(); i++) {
                if (letters.get(i).comments != last) {
                    beginnings.add(i);
                }
                last = letters.get(i).comments;
            }
            return beginnings;
        }

        long pieces() {
            return pieceBeginnings().size();
        }

        private long pieceAt(int piece) {
            List<Integer> beginnings = pieceBeginnings();
            return piece < 0 || piece >= beginnings.size() ? NO_SUCH : beginnings.get(piece);
        }

        private long suggest(int from, int to, int letter, int count) {
            if (!place(from) || !place(to)) {
                return NO_SUCH;
            }
            if (to <= from || letter < 0 || letter > 25 || count < 0 || count > 5) {
                return WRONG_ARGUMENT;
            }
            if (suggested.size() == 10) {
                return WRONG_STATE;
            }
            Suggested suggestion = new Suggested();
            suggestion.letter = letter;
            suggestion.count = count;
            suggested.add(suggestion);
            for (int i = from; i < to; i++) {
                letters.get(i).suggestions |= 1L << suggested.size() - 1;
            }
            return suggested.size() - 1;
        }

        private long overlaps(int number) {
            if (suggested.get(number).state != 0) {
                return 0;
            }
            long set = 0;
            for (Letter letter : letters) {
                set |= (letter.suggestions >> number & 1) == 1 ? letter.suggestions : 0;
            }
            for (int s = 0; s < suggested.size(); s++) {
                set &= s == number || suggested.get(s).state != 0 ? ~(1L << s) : -1L;
            }
            return set;
        }

        private long accept(int number) {
            Suggested suggestion = suggested.get(number);
            int size = (int) lettersOf(number);
            int edits = suggestion.count == 0 ? 1 : 2;
            if (letters.size() - size + suggestion.count > 60 || version + edits > 300) {
                return WRONG_STATE;
            }
            int from = 0;
            while ((letters.get(from).suggestions >> number & 1) == 0) {
                from++;
            }
            suggestion.state = 1;
            take(from, size);
            if (suggestion.count > 0) {
                put(from, suggestion.letter, suggestion.count);
            }
            return letters.size();
        }
    }
}
