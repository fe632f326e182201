/**
 * "What it is", "Terms" and "Not promised" at their edges: a test for each sentence that names one.
 * The sentence stands ahead of it.
 */
final class TermsEdgesTest {
    private static final int[] BEGIN_STAYS = {0, 1, 0, 1};
    private static final int[] END_MOVES = {0, 0, 1, 1};

    public static void main(String[] args) {
        callsUpTo512();
        findingUpTo512();
        refusedCallsAreCallsToo();
        objectsOfTheirOwn();
        places();
        lettersBetween();
        shortestAndLongestRange();
        insertionAheadOfAnEnd();
        insertionAtABeginning();
        insertionAtAnEnd();
        insertionBehindAnEnd();
        insertionBetweenTwoRanges();
        takingAwayBehindAnEnd();
        takingAwayAheadOfAnEnd();
        takingAwayNotLessThanItsPlace();
        rangesGone();
        rangesNotGone();
        orphansStay();
        keepsTheLettersItHad();
        keepsTheLettersAround();
        keepsNoneAround();
        editsDoNotChangeWhatItKeeps();
        findingDoesNotChangeWhatItKeeps();
        openResolvedOpenedAgain();
        placesThatFit();
        fitAhead();
        fitBehind();
        fitNoneAround();
        greatestFit();
        lowestOfSeveral();
        rangeOfTheFoundOne();
        suggestionsAreNotSticky();
        waitingAtFirst();
        goneByAnEdit();
        acceptedAndRejectedStay();
        acceptingTakesThenInserts();
        acceptingDoesNotMakeItGone();
        acceptingMovesTheOthers();
        versionOfAcceptedOnes();
        whatIsNoEdit();
        constants();
        Check.end("TermsEdgesTest");
    }

    // ---- What it is; Not promised

    // "An object is used for at most 512 calls after it has been made"
    private static void callsUpTo512() {
        MarginDesk desk = new MarginDesk();
        desk.insert(0, 0, 2);
        desk.comment(0, 2, 3);
        for (int call = 3; call <= 300; call += 2) {
            desk.insert(1, 25, 1);
            desk.remove(1, 1);
        }
        desk.remove(0, 1);
        for (int call = 302; call < 512; call++) {
            int version = call - 301;
            Check.due("rangeThen(0, " + version + ")", version % 2 == 1 ? 2 : 3, desk.rangeThen(0, version));
        }
        Check.due("the 512th call", 1, desk.rangeOf(0));
    }

    private static void findingUpTo512() {
        MarginDesk desk = new MarginDesk();
        desk.insert(0, 4, 1);
        desk.comment(0, 1, 0);
        for (int call = 3; call <= 446; call += 3) {
            Check.due("an orphan again", 1, desk.remove(0, 1));
            desk.insert(0, 4, 1);
            Check.due("found again", 0, desk.find(0));
        }
        for (int call = 447; call < 512; call++) {
            desk.resolve(0);
        }
        Check.due("the 512th call", 297, desk.version());
    }

    private static void refusedCallsAreCallsToo() {
        MarginDesk desk = Check.deskWith("ab");
        for (int call = 3; call < 512; call++) {
            Check.due("refused", true, isRefused(desk, call));
        }
        Check.due("the 512th call", 2, desk.length());
    }

    private static boolean isRefused(MarginDesk desk, int call) {
        try {
            if (call % 3 == 0) {
                desk.insert(3, 0, 1);
            } else if (call % 3 == 1) {
                desk.comment(1, 1, 0);
            } else {
                desk.accept(0);
            }
            return false;
        } catch (IllegalArgumentException | IndexOutOfBoundsException refused) {
            return true;
        }
    }

    // What one object is told is no matter of another one.
    private static void objectsOfTheirOwn() {
        MarginDesk one = Start.BUSY.get();
        MarginDesk other = Start.NONE_LEFT.get();
        one.insert(0, 3, 10);
        one.comment(0, 16, 0);
        Check.due("the other's length", 60, other.length());
        Check.due("the other's comments", 12, other.comments());
        Check.due("the other's first letter", 25, other.letterAt(0));
        Check.due("one's length", 16, one.length());
    }

    // ---- places and ranges

    // "A place p, from 0 to the length, lies ahead of the letter with the number p"
    private static void places() {
        MarginDesk desk = Check.deskWith("bcd");
        desk.insert(0, 0, 1);
        desk.insert(4, 4, 1);
        Check.due("letters at 0 and at the length", "abcde", Check.document(desk));
        desk.remove(0, 1);
        desk.remove(3, 1);
        Check.due("the first and the last are gone", "bcd", Check.document(desk));
    }

    // "the letters from a place to another one are those between"
    private static void lettersBetween() {
        MarginDesk desk = Check.deskWith("abcd");
        desk.comment(1, 3, 0);
        desk.suggest(1, 3, 25, 1);
        Check.due("ahead", 0, desk.cover(0));
        Check.due("the first between", 1, desk.cover(1));
        Check.due("the last between", 1, desk.cover(2));
        Check.due("behind", 0, desk.cover(3));
        desk.accept(0);
        Check.due("those of a suggestion", "azd", Check.document(desk));
    }

    // "A range is from a place to a later one."
    private static void shortestAndLongestRange() {
        MarginDesk desk = Start.FULL.get();
        desk.comment(30, 31, 0);
        Check.due("one letter", 3031, desk.rangeOf(3));
        Check.due("all letters", 60, desk.rangeOf(0));
    }

    // ---- by inserting

    private static int rangeBehindInsertion(int sticky, int at, int count) {
        MarginDesk desk = Check.deskWith("abcdefgh");
        desk.comment(3, 5, sticky);
        desk.insert(at, 25, count);
        return desk.rangeOf(0);
    }

    // "By inserting n letters at p, an end that lies behind p becomes n greater."
    private static void insertionAheadOfAnEnd() {
        for (int sticky = 0; sticky <= 3; sticky++) {
            Check.due("both ends, 1 letter at 0", 406, rangeBehindInsertion(sticky, 0, 1));
            Check.due("both ends, 10 letters at 0", 1315, rangeBehindInsertion(sticky, 0, 10));
            Check.due("both ends, just ahead", 406, rangeBehindInsertion(sticky, 2, 1));
            Check.due("the end alone, just ahead", 306, rangeBehindInsertion(sticky, 4, 1));
            Check.due("the end alone, 10 letters", 315, rangeBehindInsertion(sticky, 4, 10));
        }
    }

    // "The beginning of a range that is p stays if it is sticky there, otherwise it becomes n greater"
    private static void insertionAtABeginning() {
        for (int sticky = 0; sticky <= 3; sticky++) {
            boolean stays = BEGIN_STAYS[sticky] == 1;
            Check.due("1 letter, sticky " + sticky, stays ? 306 : 406, rangeBehindInsertion(sticky, 3, 1));
            Check.due("10 letters, sticky " + sticky, stays ? 315 : 1315, rangeBehindInsertion(sticky, 3, 10));
            MarginDesk at0 = Check.deskWith("abc");
            at0.comment(0, 3, sticky);
            at0.insert(0, 25, 2);
            Check.due("at 0, sticky " + sticky, stays ? 5 : 205, at0.rangeOf(0));
        }
    }

    // "its end that is p becomes n greater if it is sticky there, otherwise it stays"
    private static void insertionAtAnEnd() {
        for (int sticky = 0; sticky <= 3; sticky++) {
            boolean moves = END_MOVES[sticky] == 1;
            Check.due("1 letter, sticky " + sticky, moves ? 306 : 305, rangeBehindInsertion(sticky, 5, 1));
            Check.due("10 letters, sticky " + sticky, moves ? 315 : 305, rangeBehindInsertion(sticky, 5, 10));
            MarginDesk atLength = Check.deskWith("abc");
            atLength.comment(0, 3, sticky);
            atLength.insert(3, 25, 2);
            Check.due("at the length, sticky " + sticky, moves ? 5 : 3, atLength.rangeOf(0));
        }
    }

    // Of an end ahead of p nothing is said: it stays.
    private static void insertionBehindAnEnd() {
        for (int sticky = 0; sticky <= 3; sticky++) {
            Check.due("just behind its end", 305, rangeBehindInsertion(sticky, 6, 10));
            Check.due("at the length", 305, rangeBehindInsertion(sticky, 8, 1));
        }
    }

    private static void insertionBetweenTwoRanges() {
        for (int sticky = 0; sticky <= 3; sticky++) {
            MarginDesk desk = Check.deskWith("abcd");
            desk.comment(0, 2, sticky);
            desk.comment(2, 4, sticky);
            desk.insert(2, 25, 1);
            int end = 2 + END_MOVES[sticky];
            int begin = 3 - BEGIN_STAYS[sticky];
            Check.due("the one ahead, sticky " + sticky, end, desk.rangeOf(0));
            Check.due("the one behind, sticky " + sticky, 100 * begin + 5, desk.rangeOf(1));
            Check.due("the new letter", END_MOVES[sticky] + 2 * BEGIN_STAYS[sticky], desk.cover(2));
            Check.due("the new letter keeps", END_MOVES[sticky] + 2 * BEGIN_STAYS[sticky], desk.coverByLetters(2));
        }
    }

    // ---- by taking away

    private static int rangeBehindTakingAway(int at, int count) {
        MarginDesk desk = Check.deskWith("abcdefghij");
        desk.comment(4, 7, 3);
        desk.remove(at, count);
        return desk.rangeOf(0);
    }

    // An end that is p, or ahead of it, stays: only "an end behind p becomes n less".
    private static void takingAwayBehindAnEnd() {
        Check.due("from the end on", 407, rangeBehindTakingAway(7, 3));
        Check.due("from behind the end on", 407, rangeBehindTakingAway(8, 1));
        Check.due("from the beginning on", 405, rangeBehindTakingAway(4, 2));
        Check.due("from behind the beginning on", 406, rangeBehindTakingAway(5, 1));
    }

    // "By taking n letters away from p on, an end behind p becomes n less"
    private static void takingAwayAheadOfAnEnd() {
        Check.due("1 letter", 306, rangeBehindTakingAway(0, 1));
        Check.due("all letters ahead", 3, rangeBehindTakingAway(0, 4));
        Check.due("just up to the beginning", 306, rangeBehindTakingAway(3, 1));
        Check.due("just up to the end", 405, rangeBehindTakingAway(5, 2));
    }

    // ", but not less than p"
    private static void takingAwayNotLessThanItsPlace() {
        Check.due("the beginning one behind p, 2 letters", 305, rangeBehindTakingAway(3, 2));
        Check.due("the beginning, all but one letter of it", 1, rangeBehindTakingAway(0, 6));
        Check.due("the end one behind p, 2 letters", 406, rangeBehindTakingAway(6, 2));
        Check.due("the end, all up to the length", 405, rangeBehindTakingAway(5, 5));
    }

    // "A range of which both ends are the same then is gone."
    private static void rangesGone() {
        Check.due("its letters alone", -1, rangeBehindTakingAway(4, 3));
        Check.due("one letter more ahead", -1, rangeBehindTakingAway(3, 4));
        Check.due("one letter more behind", -1, rangeBehindTakingAway(4, 4));
        Check.due("all letters", -1, rangeBehindTakingAway(0, 10));
        Check.due("to the length", -1, rangeBehindTakingAway(4, 6));
        Check.due("from 0 on", -1, rangeBehindTakingAway(0, 7));
        MarginDesk bitByBit = Check.deskWith("abc");
        bitByBit.comment(0, 2, 3);
        Check.due("its first letter", 0, bitByBit.remove(0, 1));
        Check.due("its last letter", 1, bitByBit.remove(0, 1));
        Check.due("gone", -1, bitByBit.rangeOf(0));
    }

    private static void rangesNotGone() {
        Check.due("its first letter is left", 405, rangeBehindTakingAway(5, 2));
        Check.due("its last letter is left", 405, rangeBehindTakingAway(4, 2));
        Check.due("its last letter is left, all ahead gone", 1, rangeBehindTakingAway(0, 6));
        Check.due("its first letter is left, all behind gone", 405, rangeBehindTakingAway(5, 5));
    }

    // A comment "is an orphan, when that is gone": an edit gives it no range.
    private static void orphansStay() {
        for (int sticky = 0; sticky <= 3; sticky++) {
            MarginDesk desk = Check.deskWith("abc");
            desk.comment(1, 2, sticky);
            desk.remove(1, 1);
            desk.insert(1, 1, 2);
            desk.insert(0, 1, 1);
            desk.insert(5, 1, 1);
            Check.due("orphans, sticky " + sticky, 1, desk.orphans());
            Check.due("its range", -1, desk.rangeOf(0));
            Check.due("by letters", 0, desk.coverByLetters(2));
            Check.due("an orphan becomes none", 0, desk.remove(0, 6));
        }
    }

    // ---- what comments keep

    /** What find answers when a comment on these letters is an orphan and the document is another one then. */
    private static int found(String before, int from, int to, String then) {
        MarginDesk desk = Check.deskWith(before);
        desk.comment(from, to, 0);
        desk.remove(0, before.length());
        Check.write(desk, 0, then);
        return desk.find(0);
    }

    // "It keeps the letters that its range had when it was made"
    private static void keepsTheLettersItHad() {
        Check.due("one letter", 3, found("xay", 1, 2, "xyya"));
        Check.due("its first letter counts", -1, found("abc", 0, 3, "xbc"));
        Check.due("its last letter counts", -1, found("abc", 0, 3, "abx"));
        Check.due("the letters 0 and 25", 1, found("az", 0, 2, "zaz"));
        String sixty = "abcdefghijklmnopqrstuvwxyzabcdefghijklmnopqrstuvwxyzabcdefgh";
        Check.due("60 letters", 0, found(sixty, 0, 60, sixty));
        Check.due("59 of 60 letters, other last one", -1, found(sixty, 0, 60, sixty.substring(0, 59) + "z"));
        Check.due("60 letters, other first one", -1, found(sixty, 0, 60, "z" + sixty.substring(1)));
    }

    // "and the letter ahead of them and the one behind them"
    private static void keepsTheLettersAround() {
        Check.due("the one ahead", 3, found("xay", 1, 2, "qaxaq"));
        Check.due("the one behind", 3, found("xay", 1, 2, "qaqay"));
        Check.due("not the one two ahead", 1, found("wxay", 2, 3, "qaqwaq"));
        Check.due("not the one two behind", 1, found("xayw", 1, 2, "qaqawq"));
    }

    // ", NONE where there was none"
    private static void keepsNoneAround() {
        Check.due("no letter ahead", 0, found("ay", 0, 1, "aqaq"));
        Check.due("no letter behind", 3, found("xa", 1, 2, "qaqa"));
        Check.due("none ahead is not the letter 0", 0, found("by", 0, 1, "bqabq"));
        Check.due("none behind is not the letter 0", 4, found("xb", 1, 2, "qbaqb"));
        Check.due("the letter 0 ahead is not none", 3, found("abq", 1, 2, "bxabx"));
        Check.due("the letter 0 behind is not none", 1, found("qba", 1, 2, "xbaxb"));
    }

    // "later edits .. do not change what it keeps"
    private static void editsDoNotChangeWhatItKeeps() {
        MarginDesk desk = Check.deskWith("xaby");
        desk.comment(1, 3, 3);
        desk.insert(3, 25, 1);
        desk.insert(2, 24, 1);
        desk.insert(1, 23, 1);
        desk.remove(0, 1);
        desk.remove(desk.length() - 1, 1);
        Check.due("it has another range", 5, desk.rangeOf(0));
        desk.remove(0, 5);
        Check.write(desk, 0, "xaybzqabqxaby");
        Check.due("the letters and those around it as it was made", 10, desk.find(0));
    }

    // "and finding again [does] not change what it keeps"
    private static void findingDoesNotChangeWhatItKeeps() {
        MarginDesk desk = Check.deskWith("xay");
        desk.comment(1, 2, 0);
        desk.remove(0, 3);
        Check.write(desk, 0, "qaq");
        Check.due("found between others", 1, desk.find(0));
        desk.remove(0, 3);
        Check.write(desk, 0, "qaqxay");
        Check.due("found by those it keeps", 4, desk.find(0));
        desk.remove(0, 6);
        Check.due("not found", -1, desk.find(0));
        Check.write(desk, 0, "qaqxay");
        Check.due("found behind finding nothing", 4, desk.find(0));
    }

    // "It is open at first, can be resolved, and opened again; it has answers."
    private static void openResolvedOpenedAgain() {
        MarginDesk desk = Check.deskWith("a");
        desk.comment(0, 1, 0);
        Check.due("open at first", 1, desk.open());
        desk.resolve(0);
        Check.due("resolved", 0, desk.open());
        Check.due("answered", 1, desk.answer(0));
        Check.due("open again", 1, desk.open());
        desk.resolve(0);
        desk.remove(0, 1);
        Check.due("an orphan stays resolved", 0, desk.open());
        desk.insert(0, 0, 1);
        desk.find(0);
        Check.due("found, it stays resolved", 0, desk.open());
        Check.due("its answers are counted on", 2, desk.answer(0));
    }

    // ---- to find again

    // "a place fits if the letters that the comment keeps stand there in the document"
    private static void placesThatFit() {
        Check.due("the place 0", 0, found("xaby", 1, 3, "abq"));
        Check.due("the last place that there can be", 1, found("xaby", 1, 3, "qab"));
        Check.due("the whole document", 0, found("xaby", 1, 3, "ab"));
        Check.due("a letter is lacking at the end", -1, found("xaby", 1, 3, "qqa"));
        Check.due("the document is shorter", -1, found("xaby", 1, 3, "a"));
        Check.due("the document is empty", -1, found("xaby", 1, 3, ""));
        Check.due("its letters apart", -1, found("xaby", 1, 3, "aqb"));
        Check.due("a beginning of it ahead of it", 2, found("xabaq", 1, 4, "ababaq"));
    }

    // "Its fit is 1 if the letter ahead of them there is the one it keeps"
    private static void fitAhead() {
        Check.due("1 beats 0, the later place", 4, found("xay", 1, 2, "qaqxaq"));
        Check.due("1 beats 0, the earlier place", 1, found("xay", 1, 2, "xaqaq"));
    }

    // "and 1 more if the one behind them is"
    private static void fitBehind() {
        Check.due("1 beats 0, the later place", 3, found("xay", 1, 2, "qaqay"));
        Check.due("2 beats 1 ahead", 4, found("xay", 1, 2, "xaqxay"));
        Check.due("2 beats 1 behind", 4, found("xay", 1, 2, "qayxay"));
        Check.due("2 first", 1, found("xay", 1, 2, "xayqayxaq"));
    }

    // "(NONE where there is none)"
    private static void fitNoneAround() {
        Check.due("none ahead there, none kept", 0, found("ay", 0, 1, "aqqaq"));
        Check.due("none ahead there, a letter kept", 3, found("xay", 1, 2, "aqxaq"));
        Check.due("none behind there, none kept", 3, found("xa", 1, 2, "qaqa"));
        Check.due("none behind there, a letter kept", 1, found("xay", 1, 2, "qayqa"));
        Check.due("none on both sides, both kept", 0, found("a", 0, 1, "a"));
        Check.due("none ahead and the one behind: 2", 0, found("ay", 0, 1, "ayqay"));
        Check.due("the one ahead and none behind: 2", 4, found("xa", 1, 2, "xaqxa"));
    }

    // "The place with the greatest fit is taken"
    private static void greatestFit() {
        Check.due("0, 1, 2, 1", 7, found("xay", 1, 2, "qaqxaqxayqay"));
        Check.due("1, 2, 0", 3, found("xay", 1, 2, "axxayqaq"));
    }

    // ", of several the lowest"
    private static void lowestOfSeveral() {
        Check.due("of 0 and 0", 1, found("xay", 1, 2, "qaqaq"));
        Check.due("of 1 ahead and 1 behind", 1, found("xay", 1, 2, "xaqay"));
        Check.due("of 1 behind and 1 ahead", 1, found("xay", 1, 2, "qayqxaq"));
        Check.due("of 2 and 2", 1, found("xay", 1, 2, "xayxay"));
        Check.due("of places that overlap", 0, found("xaay", 1, 3, "aaaa"));
        Check.due("of 60 letters that are the same", 0, found("xay", 1, 2, "a".repeat(60)));
    }

    // "the comment gets the range with these letters there"
    private static void rangeOfTheFoundOne() {
        MarginDesk desk = Check.deskWith("xaby");
        desk.comment(1, 3, 2);
        desk.insert(3, 25, 2);
        Check.due("it grew", 105, desk.rangeOf(0));
        desk.remove(1, 4);
        Check.write(desk, 1, "qab");
        Check.due("found", 2, desk.find(0));
        Check.due("as many letters as it keeps", 204, desk.rangeOf(0));
        Check.due("no orphan", 0, desk.orphans());
        desk.insert(4, 25, 1);
        Check.due("sticky at its end as before", 205, desk.rangeOf(0));
        desk.insert(2, 25, 1);
        Check.due("not sticky at its beginning as before", 306, desk.rangeOf(0));
    }

    // ---- suggestions

    private static String acceptedBehindInsertion(int at) {
        MarginDesk desk = Check.deskWith("abcd");
        desk.suggest(1, 3, 25, 1);
        desk.insert(at, 12, 1);
        desk.accept(0);
        return Check.document(desk);
    }

    // "A suggestion has a range, not sticky at either end"
    private static void suggestionsAreNotSticky() {
        Check.due("ahead of it", "mazd", acceptedBehindInsertion(0));
        Check.due("at its beginning", "amzd", acceptedBehindInsertion(1));
        Check.due("within it", "azd", acceptedBehindInsertion(2));
        Check.due("at its end", "azmd", acceptedBehindInsertion(3));
        Check.due("behind it", "azdm", acceptedBehindInsertion(4));
    }

    // "It is WAITING at first"
    private static void waitingAtFirst() {
        MarginDesk desk = Check.deskWith("a");
        desk.suggest(0, 1, 0, 0);
        Check.due("waiting", MarginDesk.WAITING, desk.stateOf(0));
        desk.insert(0, 0, 1);
        desk.insert(2, 0, 1);
        Check.due("waiting behind insertions", MarginDesk.WAITING, desk.stateOf(0));
    }

    private static int stateBehindTakingAway(int at, int count) {
        MarginDesk desk = Check.deskWith("abcdef");
        desk.suggest(2, 4, 0, 1);
        desk.remove(at, count);
        return desk.stateOf(0);
    }

    // "GONE when its range is gone by an edit"
    private static void goneByAnEdit() {
        Check.due("its letters alone", MarginDesk.GONE, stateBehindTakingAway(2, 2));
        Check.due("one letter more ahead", MarginDesk.GONE, stateBehindTakingAway(1, 3));
        Check.due("one letter more behind", MarginDesk.GONE, stateBehindTakingAway(2, 3));
        Check.due("all letters", MarginDesk.GONE, stateBehindTakingAway(0, 6));
        Check.due("its first letter is left", MarginDesk.WAITING, stateBehindTakingAway(3, 3));
        Check.due("its last letter is left", MarginDesk.WAITING, stateBehindTakingAway(0, 3));
        Check.due("those ahead", MarginDesk.WAITING, stateBehindTakingAway(0, 2));
        Check.due("those behind", MarginDesk.WAITING, stateBehindTakingAway(4, 2));
        MarginDesk desk = Check.deskWith("abc");
        desk.suggest(1, 2, 0, 1);
        desk.remove(1, 1);
        desk.insert(1, 1, 1);
        Check.due("it stays gone", MarginDesk.GONE, desk.stateOf(0));
    }

    // "ACCEPTED or REJECTED": what is once decided is not GONE by a later edit.
    private static void acceptedAndRejectedStay() {
        MarginDesk desk = Check.deskWith("abcd");
        desk.suggest(0, 1, 25, 2);
        desk.suggest(1, 2, 25, 0);
        desk.suggest(2, 3, 25, 2);
        desk.accept(0);
        desk.accept(1);
        desk.reject(2);
        desk.remove(0, 4);
        Check.due("accepted, two edits", MarginDesk.ACCEPTED, desk.stateOf(0));
        Check.due("accepted, one edit", MarginDesk.ACCEPTED, desk.stateOf(1));
        Check.due("rejected", MarginDesk.REJECTED, desk.stateOf(2));
    }

    // "To accept one is to take the letters of its range away, and to insert its letters there"
    private static void acceptingTakesThenInserts() {
        MarginDesk desk = Check.deskWith("abcdef");
        desk.comment(2, 4, 3);
        desk.comment(0, 2, 2);
        desk.comment(0, 2, 1);
        desk.comment(4, 6, 1);
        desk.comment(4, 6, 2);
        desk.comment(0, 6, 0);
        desk.comment(1, 3, 2);
        desk.comment(3, 5, 1);
        desk.suggest(2, 4, 25, 3);
        Check.due("accept", 7, desk.accept(0));
        Check.due("the document", "abzzzef", Check.document(desk));
        Check.due("the same range is gone by the first edit", -1, desk.rangeOf(0));
        Check.due("sticky at its end there", 5, desk.rangeOf(1));
        Check.due("not sticky at its end there", 2, desk.rangeOf(2));
        Check.due("sticky at its beginning there", 207, desk.rangeOf(3));
        Check.due("not sticky at its beginning there", 507, desk.rangeOf(4));
        Check.due("around it", 7, desk.rangeOf(5));
        Check.due("over its beginning, sticky at its end", 105, desk.rangeOf(6));
        Check.due("over its end, sticky at its beginning", 206, desk.rangeOf(7));
        for (int place = 0; place <= 7; place++) {
            Check.due("by letters at " + place, desk.cover(place), desk.coverByLetters(place));
        }
    }

    // "as two edits of which the first one does not make it GONE"
    private static void acceptingDoesNotMakeItGone() {
        MarginDesk desk = Check.deskWith("ab");
        desk.suggest(0, 2, 25, 1);
        desk.accept(0);
        Check.due("all letters became one", MarginDesk.ACCEPTED, desk.stateOf(0));
        MarginDesk none = Check.deskWith("ab");
        none.suggest(0, 2, 25, 0);
        none.accept(0);
        Check.due("all letters became none", MarginDesk.ACCEPTED, none.stateOf(0));
    }

    /** Ranges that touch the accepted one stay WAITING beside it, and the new letters come to none of them. */
    private static void acceptingMovesTheOthers() {
        MarginDesk desk = Check.deskWith("abcdef");
        desk.suggest(0, 2, 23, 1);
        desk.suggest(2, 4, 24, 5);
        desk.suggest(4, 6, 25, 1);
        desk.accept(1);
        Check.due("the one ahead", MarginDesk.WAITING, desk.stateOf(0));
        Check.due("the one behind", MarginDesk.WAITING, desk.stateOf(2));
        Check.due("they do not overlap", 0, desk.overlaps(0));
        desk.accept(0);
        desk.accept(2);
        Check.due("the document", "xyyyyyz", Check.document(desk));
    }

    // ---- the version

    // "An accepted suggestion is one edit if its count is 0, otherwise two."
    private static void versionOfAcceptedOnes() {
        for (int count = 0; count <= 5; count++) {
            MarginDesk desk = Check.deskWith("abc");
            desk.suggest(0, 2, 25, count);
            desk.accept(0);
            Check.due("count " + count, count == 0 ? 4 : 5, desk.version());
        }
        MarginDesk same = Check.deskWith("abc");
        same.suggest(0, 2, 25, 2);
        same.accept(0);
        Check.due("as many letters as before are two edits too", 5, same.version());
    }

    // "The version is how many edits there were: insertions of letters, and taking away."
    private static void whatIsNoEdit() {
        MarginDesk desk = Check.deskWith("ab");
        desk.comment(0, 1, 0);
        desk.suggest(1, 2, 0, 0);
        desk.answer(0);
        desk.resolve(0);
        desk.reject(0);
        Check.due("making, answering, resolving, rejecting", 2, desk.version());
        desk.remove(0, 1);
        desk.find(0);
        Check.due("looking for an orphan", 3, desk.version());
        desk.insert(0, 0, 1);
        desk.find(0);
        Check.due("finding it", 4, desk.version());
    }

    // "NONE = -1", "WAITING = 0, ACCEPTED = 1, REJECTED = 2, GONE = 3"
    private static void constants() {
        Check.due("NONE", -1, MarginDesk.NONE);
        Check.due("WAITING", 0, MarginDesk.WAITING);
        Check.due("ACCEPTED", 1, MarginDesk.ACCEPTED);
        Check.due("REJECTED", 2, MarginDesk.REJECTED);
        Check.due("GONE", 3, MarginDesk.GONE);
    }
}
