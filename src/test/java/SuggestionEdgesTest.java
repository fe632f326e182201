/** Promises 20 to 24 at their edges: a test for each sentence that names one. The sentence stands ahead of it. */
final class SuggestionEdgesTest {
    public static void main(String[] args) {
        suggestAtAllEdges();
        suggestFrom();
        suggestTo();
        suggestLaterThanFrom();
        suggestLetters();
        suggestCounts();
        suggestUpTo10();
        suggestFirstException();
        suggestTellsItsNumber();
        numbersAtAllEdges();
        acceptNotWaiting();
        acceptOverlapping();
        acceptUpTo60();
        acceptUpTo300();
        acceptFirstException();
        acceptTellsTheLength();
        acceptLeastAndGreatest();
        rejectNotWaiting();
        rejectWhatCanNotBeAccepted();
        rejectFirstException();
        rejectTellsHowManyWait();
        stateOfTellsEachState();
        overlapsAtItsEdges();
        overlapsOfOnesThatDoNotWait();
        wrapAround();
        Check.end("SuggestionEdgesTest");
    }

    // ---- suggest

    private static void suggest(Start start, int from, int to, int letter, int count) {
        Check.meets(start + ".suggest(" + from + ", " + to + ", " + letter + ", " + count + ")", start,
            d -> d.suggest(from, to, letter, count),
            Check.outside(from, 0, start.length) || Check.outside(to, 0, start.length),
            to <= from || Check.outside(letter, 0, 25) || Check.outside(count, 0, 5),
            start.suggestions == 10,
            () -> start.suggestions);
    }

    /** All edges of two arguments with a fine and a wrong value of the other two. */
    private static void suggestAtAllEdges() {
        for (Start start : Start.values()) {
            for (int from : Check.edges(0, start.length)) {
                for (int to : Check.edges(0, start.length)) {
                    suggest(start, from, to, 25, 0);
                    suggest(start, from, to, 26, 5);
                    suggest(start, from, to, 0, 6);
                }
            }
            for (int letter : Check.edges(0, 25)) {
                for (int count : Check.edges(0, 5)) {
                    suggest(start, 0, start.length, letter, count);
                    suggest(start, 0, 0, letter, count);
                    suggest(start, 0, -1, letter, count);
                }
            }
        }
    }

    // "Throws IndexOutOfBoundsException if there is no such place from .."
    private static void suggestFrom() {
        Check.refused("from -1", Check.NO_SUCH, Start.BUSY, d -> d.suggest(-1, 3, 0, 1));
        Check.due("from 0", 5, Start.BUSY.get().suggest(0, 3, 0, 1));
        Check.due("from the last letter", 5, Start.BUSY.get().suggest(5, 6, 0, 1));
        Check.refused("from behind the end", Check.NO_SUCH, Start.BUSY, d -> d.suggest(7, 6, 0, 1));
        Check.refused("from int's least", Check.NO_SUCH, Start.BUSY, d -> d.suggest(Integer.MIN_VALUE, 6, 0, 1));
        Check.refused("from int's greatest", Check.NO_SUCH, Start.BUSY, d -> d.suggest(Integer.MAX_VALUE, 6, 0, 1));
        Check.refused("from 1 of the empty one", Check.NO_SUCH, Start.EMPTY, d -> d.suggest(1, 0, 0, 1));
        Check.refused("from 61 of 60 letters", Check.NO_SUCH, Start.FULL, d -> d.suggest(61, 60, 0, 1));
    }

    // "Throws IndexOutOfBoundsException if there is no such place .. to"
    private static void suggestTo() {
        Check.refused("to -1", Check.NO_SUCH, Start.BUSY, d -> d.suggest(0, -1, 0, 1));
        Check.due("to 1", 5, Start.BUSY.get().suggest(0, 1, 0, 1));
        Check.due("to the end", 5, Start.BUSY.get().suggest(0, 6, 0, 1));
        Check.refused("to behind the end", Check.NO_SUCH, Start.BUSY, d -> d.suggest(0, 7, 0, 1));
        Check.refused("to int's least", Check.NO_SUCH, Start.BUSY, d -> d.suggest(0, Integer.MIN_VALUE, 0, 1));
        Check.refused("to int's greatest", Check.NO_SUCH, Start.BUSY, d -> d.suggest(0, Integer.MAX_VALUE, 0, 1));
        Check.refused("to 1 of the empty one", Check.NO_SUCH, Start.EMPTY, d -> d.suggest(0, 1, 0, 1));
        Check.refused("to 61 of 60 letters", Check.NO_SUCH, Start.FULL, d -> d.suggest(0, 61, 0, 1));
        Check.due("to 60 of 60 letters", 4, Start.FULL.get().suggest(0, 60, 0, 1));
    }

    // "Throws IllegalArgumentException if to is not later than from"
    private static void suggestLaterThanFrom() {
        Check.due("one later", 5, Start.BUSY.get().suggest(3, 4, 0, 1));
        Check.refused("the same", Check.WRONG_ARGUMENT, Start.BUSY, d -> d.suggest(3, 3, 0, 1));
        Check.refused("one earlier", Check.WRONG_ARGUMENT, Start.BUSY, d -> d.suggest(3, 2, 0, 1));
        Check.refused("both at the beginning", Check.WRONG_ARGUMENT, Start.BUSY, d -> d.suggest(0, 0, 0, 1));
        Check.refused("both at the end", Check.WRONG_ARGUMENT, Start.BUSY, d -> d.suggest(6, 6, 0, 1));
        Check.refused("from the end to the beginning", Check.WRONG_ARGUMENT, Start.BUSY, d -> d.suggest(6, 0, 0, 1));
        Check.refused("in the empty one", Check.WRONG_ARGUMENT, Start.EMPTY, d -> d.suggest(0, 0, 0, 0));
    }

    // "letter: 0 to 25"; "Throws IllegalArgumentException if .. letter .. is out of range"
    private static void suggestLetters() {
        MarginDesk desk = Check.deskWith("bb");
        desk.suggest(0, 1, 0, 1);
        desk.suggest(1, 2, 25, 1);
        desk.accept(0);
        desk.accept(1);
        Check.due("the letters 0 and 25", "az", Check.document(desk));
        Check.refused("-1", Check.WRONG_ARGUMENT, Start.BUSY, d -> d.suggest(0, 1, -1, 1));
        Check.refused("26", Check.WRONG_ARGUMENT, Start.BUSY, d -> d.suggest(0, 1, 26, 1));
        Check.refused("none of -1", Check.WRONG_ARGUMENT, Start.BUSY, d -> d.suggest(0, 1, -1, 0));
        Check.refused("none of 26", Check.WRONG_ARGUMENT, Start.BUSY, d -> d.suggest(0, 1, 26, 0));
        Check.refused("int's least", Check.WRONG_ARGUMENT, Start.BUSY, d -> d.suggest(0, 1, Integer.MIN_VALUE, 1));
        Check.refused("int's greatest", Check.WRONG_ARGUMENT, Start.BUSY, d -> d.suggest(0, 1, Integer.MAX_VALUE, 1));
    }

    // "count: 0 to 5"; "Throws IllegalArgumentException if .. count is out of range"
    private static void suggestCounts() {
        MarginDesk desk = Check.deskWith("ab");
        desk.suggest(0, 1, 25, 0);
        desk.suggest(1, 2, 25, 5);
        desk.accept(1);
        Check.due("5 letters", "azzzzz", Check.document(desk));
        desk.accept(0);
        Check.due("0 letters", "zzzzz", Check.document(desk));
        Check.refused("-1", Check.WRONG_ARGUMENT, Start.BUSY, d -> d.suggest(0, 1, 0, -1));
        Check.refused("6", Check.WRONG_ARGUMENT, Start.BUSY, d -> d.suggest(0, 1, 0, 6));
        Check.refused("int's least", Check.WRONG_ARGUMENT, Start.BUSY, d -> d.suggest(0, 1, 0, Integer.MIN_VALUE));
        Check.refused("int's greatest", Check.WRONG_ARGUMENT, Start.BUSY, d -> d.suggest(0, 1, 0, Integer.MAX_VALUE));
    }

    // "Throws IllegalStateException if there are 10 suggestions"
    private static void suggestUpTo10() {
        Check.due("the 10th", 9, Start.ONE_OF_EACH_LEFT.get().suggest(0, 59, 0, 5));
        Check.refused("the 11th", Check.WRONG_STATE, Start.TEN_SUGGESTIONS, d -> d.suggest(0, 1, 0, 0));
        Check.refused("the 11th on 60 letters", Check.WRONG_STATE, Start.NONE_LEFT, d -> d.suggest(0, 60, 0, 0));
        Check.refused("the 11th when none waits", Check.WRONG_STATE, () -> {
            MarginDesk desk = Start.TEN_SUGGESTIONS.get();
            desk.reject(0);
            desk.remove(0, 8);
            desk.insert(0, 1, 1);
            return desk;
        }, d -> d.suggest(0, 1, 0, 0));
    }

    // "If several exceptions of a throws clause apply, the one that is listed first is thrown."
    private static void suggestFirstException() {
        Check.refused("from, not later", Check.NO_SUCH, Start.BUSY, d -> d.suggest(7, 2, 0, 1));
        Check.refused("to, not later", Check.NO_SUCH, Start.BUSY, d -> d.suggest(2, -1, 0, 1));
        Check.refused("from, letter", Check.NO_SUCH, Start.BUSY, d -> d.suggest(-1, 2, 26, 1));
        Check.refused("to, count", Check.NO_SUCH, Start.BUSY, d -> d.suggest(2, 7, 0, 6));
        Check.refused("from, 10", Check.NO_SUCH, Start.TEN_SUGGESTIONS, d -> d.suggest(-1, 2, 0, 1));
        Check.refused("to, 10", Check.NO_SUCH, Start.TEN_SUGGESTIONS, d -> d.suggest(2, 9, 0, 1));
        Check.refused("not later, 10", Check.WRONG_ARGUMENT, Start.TEN_SUGGESTIONS, d -> d.suggest(2, 2, 0, 1));
        Check.refused("letter, 10", Check.WRONG_ARGUMENT, Start.TEN_SUGGESTIONS, d -> d.suggest(2, 3, -1, 1));
        Check.refused("count, 10", Check.WRONG_ARGUMENT, Start.TEN_SUGGESTIONS, d -> d.suggest(2, 3, 0, 6));
        Check.refused("all of them", Check.NO_SUCH, Start.TEN_SUGGESTIONS, d -> d.suggest(9, -1, 26, 6));
    }

    // "Suggestions are numbered from 0"; "Returns its number."
    private static void suggestTellsItsNumber() {
        MarginDesk desk = Check.deskWith("ab");
        for (int number = 0; number < 10; number++) {
            Check.due("the number", number, desk.suggest(0, 1, 0, 0));
        }
        MarginDesk gone = Check.deskWith("ab");
        gone.suggest(0, 1, 0, 0);
        gone.remove(0, 1);
        Check.due("no number is used again", 1, gone.suggest(0, 1, 0, 0));
    }

    // ---- the numbers of suggestions

    // "Throws IndexOutOfBoundsException if there is no such suggestion"
    private static void numbersAtAllEdges() {
        for (Start start : Start.values()) {
            for (int suggestion : Check.edges(0, start.suggestions - 1)) {
                boolean noSuch = Check.outside(suggestion, 0, start.suggestions - 1);
                String of = "(" + suggestion + ")";
                boolean waits = !noSuch && start.state(suggestion) == MarginDesk.WAITING;
                Check.meets(start + ".stateOf" + of, start, d -> d.stateOf(suggestion), noSuch, false, false,
                    () -> start.state(suggestion));
                Check.meets(start + ".reject" + of, start, d -> d.reject(suggestion), noSuch, false, !waits,
                    () -> waitingOf(start) - 1);
                if (!waits) {
                    Check.meets(start + ".accept" + of, start, d -> d.accept(suggestion), noSuch, false, true, () -> 0);
                    Check.meets(start + ".overlaps" + of, start, d -> d.overlaps(suggestion), noSuch, false, false, () -> 0);
                }
            }
        }
        Check.refused("accept(10)", Check.NO_SUCH, Start.NONE_LEFT, d -> d.accept(10));
        Check.refused("reject(10)", Check.NO_SUCH, Start.NONE_LEFT, d -> d.reject(10));
        Check.refused("stateOf(10)", Check.NO_SUCH, Start.NONE_LEFT, d -> d.stateOf(10));
        Check.refused("overlaps(10)", Check.NO_SUCH, Start.NONE_LEFT, d -> d.overlaps(10));
    }

    private static int waitingOf(Start start) {
        int waiting = 0;
        for (int suggestion = 0; suggestion < start.suggestions; suggestion++) {
            waiting += start.state(suggestion) == MarginDesk.WAITING ? 1 : 0;
        }
        return waiting;
    }

    // ---- accept

    // "Throws IllegalStateException if it is not WAITING"
    private static void acceptNotWaiting() {
        Check.refused("an accepted one", Check.WRONG_STATE, Start.BUSY, d -> d.accept(0));
        Check.refused("a rejected one", Check.WRONG_STATE, Start.BUSY, d -> d.accept(3));
        Check.refused("a gone one", Check.WRONG_STATE, Start.BUSY, d -> d.accept(4));
        Check.due("a waiting one", 0, Check.desk(d -> {
            d.insert(0, 0, 1);
            d.suggest(0, 1, 0, 0);
        }).accept(0));
    }

    // "Throws IllegalStateException if it .. overlaps another one"
    private static void acceptOverlapping() {
        Check.refused("the earlier one", Check.WRONG_STATE, Start.BUSY, d -> d.accept(1));
        Check.refused("the later one", Check.WRONG_STATE, Start.BUSY, d -> d.accept(2));
        Check.refused("the first with the ninth", Check.WRONG_STATE, Start.TEN_SUGGESTIONS, d -> d.accept(0));
        Check.refused("the ninth with two", Check.WRONG_STATE, Start.TEN_SUGGESTIONS, d -> d.accept(8));
        MarginDesk rejected = Start.BUSY.get();
        rejected.reject(2);
        Check.due("the other one is rejected", 9, rejected.accept(1));
        MarginDesk gone = Check.deskWith("abcd");
        gone.suggest(0, 2, 25, 2);
        gone.suggest(1, 2, 25, 2);
        gone.remove(1, 1);
        Check.due("the other one is gone", 4, gone.accept(0));
        MarginDesk touching = Check.deskWith("abcd");
        touching.suggest(0, 2, 25, 2);
        touching.suggest(2, 4, 24, 2);
        touching.suggest(1, 3, 23, 2);
        Check.refused("a letter of each of two", Check.WRONG_STATE, () -> threeInARow(), d -> d.accept(1));
        touching.reject(2);
        Check.due("ranges that touch", 4, touching.accept(0));
        Check.due("the one that touched", 4, touching.accept(1));
        Check.due("the document then", "zzyy", Check.document(touching));
    }

    private static MarginDesk threeInARow() {
        MarginDesk desk = Check.deskWith("abcd");
        desk.suggest(0, 2, 25, 2);
        desk.suggest(1, 3, 24, 2);
        desk.suggest(2, 4, 23, 2);
        return desk;
    }

    // "Throws IllegalStateException if .. the document would have more than 60 letters"
    private static void acceptUpTo60() {
        Check.refused("61 letters: 4 of 60 become 5", Check.WRONG_STATE, Start.FULL, d -> d.accept(0));
        Check.due("60 letters: 5 of 60 become 5", 60, Start.FULL.get().accept(1));
        Check.due("fewer: 5 of 60 become none", 55, Start.FULL.get().accept(2));
        Check.refused("64 letters: 1 of 60 becomes 5", Check.WRONG_STATE, () -> {
            MarginDesk desk = Start.FULL.get();
            desk.suggest(30, 31, 0, 5);
            return desk;
        }, d -> d.accept(4));
        MarginDesk to60 = Start.FULL.get();
        to60.remove(30, 1);
        Check.due("60 letters: 4 of 59 become 5", 60, to60.accept(0));
    }

    // "Throws IllegalStateException if .. there would be more than 300 edits"
    private static void acceptUpTo300() {
        MarginDesk one = Start.ONE_EDIT_LEFT.get();
        Check.due("one edit at 299", 4, one.accept(0));
        Check.due("version", 300, one.version());
        Check.refused("two edits at 299", Check.WRONG_STATE, Start.ONE_EDIT_LEFT, d -> d.accept(1));
        Check.refused("one edit at 300", Check.WRONG_STATE, Start.NO_EDIT_LEFT, d -> d.accept(0));
        Check.refused("two edits at 300", Check.WRONG_STATE, Start.NO_EDIT_LEFT, d -> d.accept(1));
        MarginDesk at298 = Check.desk(d -> {
            Check.write(d, 0, "abcd");
            Start.editUpTo(d, 298, true, 0, 25);
            d.suggest(0, 4, 3, 5);
        });
        Check.due("two edits at 298", 5, at298.accept(0));
        Check.due("version", 300, at298.version());
    }

    // "If several exceptions of a throws clause apply, the one that is listed first is thrown."
    private static void acceptFirstException() {
        Check.refused("no such one, 60 letters", Check.NO_SUCH, Start.FULL, d -> d.accept(4));
        Check.refused("no such one, 300 edits", Check.NO_SUCH, Start.NO_EDIT_LEFT, d -> d.accept(3));
        Check.refused("no such one, all full", Check.NO_SUCH, Start.NONE_LEFT, d -> d.accept(-1));
        Check.refused("not waiting, 300 edits", Check.WRONG_STATE, Start.NO_EDIT_LEFT, d -> d.accept(2));
        Check.refused("overlapping, 60 letters", Check.WRONG_STATE, () -> {
            MarginDesk desk = Start.FULL.get();
            desk.suggest(0, 4, 0, 5);
            return desk;
        }, d -> d.accept(0));
        Check.refused("60 letters, 300 edits", Check.WRONG_STATE, Start.NONE_LEFT, d -> d.accept(5));
    }

    // "Returns the length of the document then."
    private static void acceptTellsTheLength() {
        MarginDesk all = Start.FULL.get();
        all.reject(0);
        all.reject(1);
        all.reject(2);
        all.reject(3);
        all.suggest(0, 60, 0, 0);
        Check.due("the least", 0, all.accept(4));
        Check.due("the length", 0, all.length());
        Check.due("the greatest", 60, Start.FULL.get().accept(3));
    }

    /** The shortest and the longest range, at both ends of the document. */
    private static void acceptLeastAndGreatest() {
        MarginDesk one = Check.deskWith("a");
        one.suggest(0, 1, 25, 1);
        Check.due("the only letter becomes another", 1, one.accept(0));
        Check.due("the document then", "z", Check.document(one));
        MarginDesk ends = Check.deskWith("abc");
        ends.suggest(0, 1, 25, 2);
        ends.suggest(2, 3, 24, 3);
        Check.due("the last letter", 5, ends.accept(1));
        Check.due("the first letter", 6, ends.accept(0));
        Check.due("the document then", "zzbyyy", Check.document(ends));
        MarginDesk most = new MarginDesk();
        Start.fill(most);
        most.suggest(0, 60, 25, 5);
        Check.due("60 letters become 5", 5, most.accept(0));
        Check.due("the document then", "zzzzz", Check.document(most));
    }

    // ---- reject

    // "Throws IllegalStateException if it is not WAITING"
    private static void rejectNotWaiting() {
        Check.refused("an accepted one", Check.WRONG_STATE, Start.BUSY, d -> d.reject(0));
        Check.refused("a rejected one", Check.WRONG_STATE, Start.BUSY, d -> d.reject(3));
        Check.refused("a gone one", Check.WRONG_STATE, Start.BUSY, d -> d.reject(4));
    }

    /** Of what hinders accepting, the throws clause of reject names only one. */
    private static void rejectWhatCanNotBeAccepted() {
        Check.due("one that overlaps", 1, Start.BUSY.get().reject(1));
        Check.due("one that would make 61 letters", 3, Start.FULL.get().reject(0));
        Check.due("one behind the 300th edit", 1, Start.NO_EDIT_LEFT.get().reject(1));
    }

    // "If several exceptions of a throws clause apply": none that is no suggestion waits.
    private static void rejectFirstException() {
        Check.refused("no suggestion at all", Check.NO_SUCH, Start.EMPTY, d -> d.reject(0));
        Check.refused("-1", Check.NO_SUCH, Start.BUSY, d -> d.reject(-1));
        Check.refused("the sixth of five", Check.NO_SUCH, Start.BUSY, d -> d.reject(5));
    }

    // "Returns how many are WAITING then."
    private static void rejectTellsHowManyWait() {
        MarginDesk desk = Check.deskWith("ab");
        for (int suggestion = 0; suggestion < 10; suggestion++) {
            desk.suggest(0, 2, 0, 0);
        }
        for (int suggestion = 0; suggestion < 10; suggestion++) {
            Check.due("those behind " + suggestion, 9 - suggestion, desk.reject(suggestion));
            Check.due("its state", MarginDesk.REJECTED, desk.stateOf(suggestion));
        }
        MarginDesk others = Start.TEN_SUGGESTIONS.get();
        Check.due("accepted and gone ones do not wait", 5, others.reject(8));
    }

    // ---- stateOf, overlaps

    // "Returns WAITING, ACCEPTED, REJECTED or GONE."
    private static void stateOfTellsEachState() {
        MarginDesk desk = Start.BUSY.get();
        Check.due("accepted", 1, desk.stateOf(0));
        Check.due("waiting", 0, desk.stateOf(1));
        Check.due("rejected", 2, desk.stateOf(3));
        Check.due("gone", 3, desk.stateOf(4));
        MarginDesk ten = Start.NONE_LEFT.get();
        Check.due("the first", 0, ten.stateOf(0));
        Check.due("the last", 0, ten.stateOf(9));
        ten.reject(9);
        Check.due("the last, rejected", 2, ten.stateOf(9));
    }

    // "Returns the set, bit s for the suggestion s"
    private static void overlapsAtItsEdges() {
        MarginDesk alone = Check.deskWith("ab");
        alone.suggest(0, 2, 0, 0);
        Check.due("alone: not with itself", 0, alone.overlaps(0));
        MarginDesk all = Check.deskWith("ab");
        for (int suggestion = 0; suggestion < 10; suggestion++) {
            all.suggest(0, 2, 0, 0);
        }
        for (int suggestion = 0; suggestion < 10; suggestion++) {
            Check.due("all the others of " + suggestion, 0x3FF & ~(1 << suggestion), all.overlaps(suggestion));
        }
        Check.due("by the first letter alone", 2, twoOn(0, 3, 0, 1).overlaps(0));
        Check.due("by the last letter alone", 2, twoOn(0, 3, 2, 5).overlaps(0));
        Check.due("the one ahead too", 1, twoOn(0, 3, 2, 5).overlaps(1));
        Check.due("one within the other", 2, twoOn(0, 5, 2, 3).overlaps(0));
        Check.due("the other one too", 1, twoOn(0, 5, 2, 3).overlaps(1));
        Check.due("touching behind", 0, twoOn(0, 2, 2, 5).overlaps(0));
        Check.due("touching ahead", 0, twoOn(0, 2, 2, 5).overlaps(1));
        Check.due("apart", 0, twoOn(0, 1, 4, 5).overlaps(0));
    }

    private static MarginDesk twoOn(int from, int to, int otherFrom, int otherTo) {
        MarginDesk desk = Check.deskWith("abcde");
        desk.suggest(from, to, 0, 0);
        desk.suggest(otherFrom, otherTo, 0, 0);
        return desk;
    }

    /** Numbers far outside are not taken for those that are left of them in fewer bits. */
    private static void wrapAround() {
        for (int number : Check.WRAPPING) {
            String of = "(" + number + ")";
            Check.refused("suggest from " + number, Check.NO_SUCH, Start.BUSY, d -> d.suggest(number, 6, 0, 1));
            Check.refused("suggest to " + number, Check.NO_SUCH, Start.BUSY, d -> d.suggest(0, number, 0, 1));
            Check.refused("suggest the letter " + number, Check.WRONG_ARGUMENT, Start.BUSY, d -> d.suggest(0, 1, number, 1));
            Check.refused("suggest so many: " + number, Check.WRONG_ARGUMENT, Start.BUSY, d -> d.suggest(0, 1, 0, number));
            Check.refused("accept" + of, Check.NO_SUCH, Start.TEN_SUGGESTIONS, d -> d.accept(number));
            Check.refused("reject" + of, Check.NO_SUCH, Start.TEN_SUGGESTIONS, d -> d.reject(number));
            Check.refused("stateOf" + of, Check.NO_SUCH, Start.TEN_SUGGESTIONS, d -> d.stateOf(number));
            Check.refused("overlaps" + of, Check.NO_SUCH, Start.TEN_SUGGESTIONS, d -> d.overlaps(number));
        }
    }

    // "0 if it is not WAITING"; "Two suggestions that are WAITING overlap"
    private static void overlapsOfOnesThatDoNotWait() {
        MarginDesk rejected = twoOn(0, 3, 2, 5);
        rejected.reject(1);
        Check.due("of a rejected one", 0, rejected.overlaps(1));
        Check.due("with a rejected one", 0, rejected.overlaps(0));
        MarginDesk gone = twoOn(0, 3, 2, 3);
        gone.remove(2, 1);
        Check.due("of a gone one", 0, gone.overlaps(1));
        Check.due("with a gone one", 0, gone.overlaps(0));
        MarginDesk accepted = twoOn(0, 3, 3, 5);
        accepted.accept(0);
        accepted.suggest(0, accepted.length(), 0, 0);
        Check.due("of an accepted one", 0, accepted.overlaps(0));
        Check.due("with the waiting one alone", 2, accepted.overlaps(2));
        Check.due("with the new one alone", 4, accepted.overlaps(1));
    }
}
