/** Promises 1 to 6 at their edges: a test for each sentence that names one. The sentence stands ahead of it. */
final class DocumentEdgesTest {
    private static final Check.Call INSERT_WRONG_LETTER = d -> d.insert(0, 26, 1);

    public static void main(String[] args) {
        aNewObject();
        insertAtAllEdges();
        insertPlaces();
        insertLetters();
        insertCounts();
        insertUpTo60();
        insertUpTo300();
        insertFirstException();
        insertTellsTheLength();
        removeAtAllEdges();
        removePlaces();
        removeLeastCount();
        removeGreatestCount();
        removeUpTo300();
        removeFirstException();
        removeTellsOrphans();
        lengthAtItsEdges();
        letterAtAllEdges();
        letterAtTheEnd();
        versionAtItsEdges();
        wrapAround();
        Check.end("DocumentEdgesTest");
    }

    // "Opens an empty document."
    private static void aNewObject() {
        MarginDesk desk = new MarginDesk();
        Check.due("length", 0, desk.length());
        Check.due("version", 0, desk.version());
        Check.due("letterAt(0)", MarginDesk.NONE, desk.letterAt(0));
        Check.due("comments", 0, desk.comments());
        Check.due("open", 0, desk.open());
        Check.due("orphans", 0, desk.orphans());
        Check.due("cover(0)", 0, desk.cover(0));
        Check.due("coverByLetters(0)", 0, desk.coverByLetters(0));
        Check.due("pieces", 0, desk.pieces());
        Check.refused("stateOf(0)", Check.NO_SUCH, MarginDesk::new, d -> d.stateOf(0));
    }

    // ---- insert

    private static void insertAtAllEdges() {
        for (Start start : Start.values()) {
            for (int at : Check.edges(0, start.length)) {
                for (int letter : Check.edges(0, 25)) {
                    for (int count : Check.edges(1, 10)) {
                        Check.meets(start + ".insert(" + at + ", " + letter + ", " + count + ")", start,
                            d -> d.insert(at, letter, count),
                            Check.outside(at, 0, start.length),
                            Check.outside(letter, 0, 25) || Check.outside(count, 1, 10),
                            start.length + count > 60 || start.version == 300,
                            () -> start.length + count);
                    }
                }
            }
        }
    }

    // "at: a place"; "Throws IndexOutOfBoundsException if there is no such place"
    private static void insertPlaces() {
        Check.refused("insert at -1", Check.NO_SUCH, Start.BUSY, d -> d.insert(-1, 0, 1));
        Check.due("insert at 0", 7, Start.BUSY.get().insert(0, 0, 1));
        Check.due("insert at the end", 7, Start.BUSY.get().insert(6, 0, 1));
        Check.refused("insert behind the end", Check.NO_SUCH, Start.BUSY, d -> d.insert(7, 0, 1));
        Check.refused("insert at int's least", Check.NO_SUCH, Start.BUSY, d -> d.insert(Integer.MIN_VALUE, 0, 1));
        Check.refused("insert at int's greatest", Check.NO_SUCH, Start.BUSY, d -> d.insert(Integer.MAX_VALUE, 0, 1));
        Check.due("insert at 0 of the empty one", 1, Start.EMPTY.get().insert(0, 0, 1));
        Check.refused("insert at -1 of the empty one", Check.NO_SUCH, Start.EMPTY, d -> d.insert(-1, 0, 1));
        Check.refused("insert at 1 of the empty one", Check.NO_SUCH, Start.EMPTY, d -> d.insert(1, 0, 1));
        Check.due("insert at 59 of 59 letters", 60, Start.ONE_OF_EACH_LEFT.get().insert(59, 0, 1));
        Check.refused("insert at 60 of 59 letters", Check.NO_SUCH, Start.ONE_OF_EACH_LEFT, d -> d.insert(60, 0, 1));
        Check.refused("insert at 61 of 60 letters", Check.NO_SUCH, Start.FULL, d -> d.insert(61, 0, 1));
    }

    // "letter: 0 to 25"; "Throws IllegalArgumentException if letter .. is out of range"
    private static void insertLetters() {
        MarginDesk desk = new MarginDesk();
        desk.insert(0, 0, 1);
        desk.insert(1, 25, 1);
        Check.due("the letter 0", 0, desk.letterAt(0));
        Check.due("the letter 25", 25, desk.letterAt(1));
        Check.refused("the letter -1", Check.WRONG_ARGUMENT, Start.BUSY, d -> d.insert(3, -1, 1));
        Check.refused("the letter 26", Check.WRONG_ARGUMENT, Start.BUSY, d -> d.insert(3, 26, 1));
        Check.refused("int's least", Check.WRONG_ARGUMENT, Start.BUSY, d -> d.insert(3, Integer.MIN_VALUE, 1));
        Check.refused("int's greatest", Check.WRONG_ARGUMENT, Start.BUSY, d -> d.insert(3, Integer.MAX_VALUE, 1));
        Check.refused("the letter 26 in the empty one", Check.WRONG_ARGUMENT, Start.EMPTY, INSERT_WRONG_LETTER);
    }

    // "count: 1 to 10"; "Throws IllegalArgumentException if .. count is out of range"
    private static void insertCounts() {
        MarginDesk one = Check.deskWith("ab");
        Check.due("1 letter", 3, one.insert(1, 25, 1));
        Check.due("its document", "azb", Check.document(one));
        MarginDesk ten = Check.deskWith("ab");
        Check.due("10 letters", 12, ten.insert(1, 25, 10));
        Check.due("their document", "azzzzzzzzzzb", Check.document(ten));
        Check.refused("0 letters", Check.WRONG_ARGUMENT, Start.BUSY, d -> d.insert(3, 0, 0));
        Check.refused("-1 letters", Check.WRONG_ARGUMENT, Start.BUSY, d -> d.insert(3, 0, -1));
        Check.refused("11 letters", Check.WRONG_ARGUMENT, Start.BUSY, d -> d.insert(3, 0, 11));
        Check.refused("int's least", Check.WRONG_ARGUMENT, Start.BUSY, d -> d.insert(3, 0, Integer.MIN_VALUE));
        Check.refused("int's greatest", Check.WRONG_ARGUMENT, Start.BUSY, d -> d.insert(3, 0, Integer.MAX_VALUE));
        Check.refused("0 letters into the empty one", Check.WRONG_ARGUMENT, Start.EMPTY, d -> d.insert(0, 0, 0));
        Check.refused("11 letters into the empty one", Check.WRONG_ARGUMENT, Start.EMPTY, d -> d.insert(0, 0, 11));
    }

    private static MarginDesk withLetters(int letters) {
        MarginDesk desk = new MarginDesk();
        for (int ten = 0; ten < letters / 10; ten++) {
            desk.insert(0, ten, 10);
        }
        for (int one = 0; one < letters % 10; one++) {
            desk.insert(0, one, 1);
        }
        return desk;
    }

    // "Throws IllegalStateException if the document would have more than 60 letters"
    private static void insertUpTo60() {
        Check.due("1 to 59", 60, withLetters(59).insert(30, 0, 1));
        Check.refused("2 to 59", Check.WRONG_STATE, () -> withLetters(59), d -> d.insert(30, 0, 2));
        Check.due("10 to 50", 60, withLetters(50).insert(0, 0, 10));
        Check.refused("10 to 51", Check.WRONG_STATE, () -> withLetters(51), d -> d.insert(0, 0, 10));
        Check.due("9 to 51", 60, withLetters(51).insert(51, 0, 9));
        Check.refused("1 to 60 at the beginning", Check.WRONG_STATE, Start.FULL, d -> d.insert(0, 0, 1));
        Check.refused("1 to 60 at the end", Check.WRONG_STATE, Start.FULL, d -> d.insert(60, 0, 1));
        Check.refused("10 to 60", Check.WRONG_STATE, Start.FULL, d -> d.insert(30, 25, 10));
    }

    // "Throws IllegalStateException if .. there were 300 edits"
    private static void insertUpTo300() {
        MarginDesk desk = Start.ONE_EDIT_LEFT.get();
        Check.due("the 300th edit", 15, desk.insert(0, 0, 10));
        Check.due("version", 300, desk.version());
        Check.refused("the 301st edit", Check.WRONG_STATE, Start.NO_EDIT_LEFT, d -> d.insert(0, 0, 1));
        Check.refused("the 301st edit of 60 letters", Check.WRONG_STATE, Start.NONE_LEFT, d -> d.insert(0, 0, 1));
    }

    // "If several exceptions of a throws clause apply, the one that is listed first is thrown."
    private static void insertFirstException() {
        Check.refused("place, letter", Check.NO_SUCH, Start.BUSY, d -> d.insert(7, 26, 1));
        Check.refused("place, count", Check.NO_SUCH, Start.BUSY, d -> d.insert(-1, 0, 0));
        Check.refused("place, 60 letters", Check.NO_SUCH, Start.FULL, d -> d.insert(61, 0, 1));
        Check.refused("place, 300 edits", Check.NO_SUCH, Start.NO_EDIT_LEFT, d -> d.insert(5, 0, 1));
        Check.refused("letter, 60 letters", Check.WRONG_ARGUMENT, Start.FULL, INSERT_WRONG_LETTER);
        Check.refused("letter, 300 edits", Check.WRONG_ARGUMENT, Start.NO_EDIT_LEFT, INSERT_WRONG_LETTER);
        Check.refused("count, 60 letters", Check.WRONG_ARGUMENT, Start.FULL, d -> d.insert(0, 0, 11));
        Check.refused("count, 300 edits", Check.WRONG_ARGUMENT, Start.NO_EDIT_LEFT, d -> d.insert(0, 0, 0));
        Check.refused("all of them", Check.NO_SUCH, Start.NONE_LEFT, d -> d.insert(-1, -1, 11));
        Check.refused("all but the place", Check.WRONG_ARGUMENT, Start.NONE_LEFT, d -> d.insert(60, 26, 11));
    }

    // "Returns the length then."
    private static void insertTellsTheLength() {
        Check.due("the least", 1, new MarginDesk().insert(0, 0, 1));
        Check.due("the greatest", 60, withLetters(50).insert(20, 25, 10));
    }

    // ---- remove

    private static void removeAtAllEdges() {
        for (Start start : Start.values()) {
            for (int at : Check.edges(0, start.length)) {
                boolean noSuch = Check.outside(at, 0, start.length);
                int greatest = noSuch ? 1 : start.length - at;
                for (int count : Check.edges(1, greatest)) {
                    Check.meets(start + ".remove(" + at + ", " + count + ")", start, d -> d.remove(at, count),
                        noSuch, Check.outside(count, 1, greatest), start.version == 300,
                        () -> start.orphanedBy(at, count));
                }
            }
        }
    }

    // "at: a place"; "Throws IndexOutOfBoundsException if there is no such place"
    private static void removePlaces() {
        Check.refused("remove at -1", Check.NO_SUCH, Start.BUSY, d -> d.remove(-1, 1));
        Check.due("remove at 0", 0, Start.BUSY.get().remove(0, 1));
        Check.due("remove at the last letter", 0, Start.BUSY.get().remove(5, 1));
        Check.refused("remove behind the end", Check.NO_SUCH, Start.BUSY, d -> d.remove(7, 1));
        Check.refused("remove at int's least", Check.NO_SUCH, Start.BUSY, d -> d.remove(Integer.MIN_VALUE, 1));
        Check.refused("remove at int's greatest", Check.NO_SUCH, Start.BUSY, d -> d.remove(Integer.MAX_VALUE, 1));
        Check.refused("remove at 1 of the empty one", Check.NO_SUCH, Start.EMPTY, d -> d.remove(1, 1));
        Check.due("remove at 59 of 60 letters", 0, Start.FULL.get().remove(59, 1));
        Check.refused("remove at 61 of 60 letters", Check.NO_SUCH, Start.FULL, d -> d.remove(61, 1));
    }

    // "count: how many, 1 or more"; "Throws IllegalArgumentException if count is below 1"
    private static void removeLeastCount() {
        MarginDesk desk = Check.deskWith("abc");
        Check.due("1", 0, desk.remove(1, 1));
        Check.due("the document then", "ac", Check.document(desk));
        Check.refused("0", Check.WRONG_ARGUMENT, Start.BUSY, d -> d.remove(1, 0));
        Check.refused("-1", Check.WRONG_ARGUMENT, Start.BUSY, d -> d.remove(1, -1));
        Check.refused("int's least", Check.WRONG_ARGUMENT, Start.BUSY, d -> d.remove(1, Integer.MIN_VALUE));
        Check.refused("0 of the empty one", Check.WRONG_ARGUMENT, Start.EMPTY, d -> d.remove(0, 0));
    }

    // "Throws IllegalArgumentException if count is .. more than there are from this place on"
    private static void removeGreatestCount() {
        MarginDesk desk = Check.deskWith("abcd");
        Check.due("all from 1 on", 0, desk.remove(1, 3));
        Check.due("the document then", "a", Check.document(desk));
        MarginDesk full = Start.FULL.get();
        Check.due("all 60", 3, full.remove(0, 60));
        Check.due("the length then", 0, full.length());
        Check.refused("one too many", Check.WRONG_ARGUMENT, Start.BUSY, d -> d.remove(1, 6));
        Check.refused("one too many from 0 on", Check.WRONG_ARGUMENT, Start.BUSY, d -> d.remove(0, 7));
        Check.refused("1 at the end", Check.WRONG_ARGUMENT, Start.BUSY, d -> d.remove(6, 1));
        Check.refused("1 of the empty one", Check.WRONG_ARGUMENT, Start.EMPTY, d -> d.remove(0, 1));
        Check.refused("61 of 60", Check.WRONG_ARGUMENT, Start.FULL, d -> d.remove(0, 61));
        Check.refused("1 at the end of 60", Check.WRONG_ARGUMENT, Start.FULL, d -> d.remove(60, 1));
        Check.refused("int's greatest", Check.WRONG_ARGUMENT, Start.BUSY, d -> d.remove(1, Integer.MAX_VALUE));
    }

    // "Throws IllegalStateException if there were 300 edits"
    private static void removeUpTo300() {
        MarginDesk desk = Start.ONE_EDIT_LEFT.get();
        Check.due("the 300th edit", 1, desk.remove(0, 5));
        Check.due("version", 300, desk.version());
        Check.refused("the 301st edit", Check.WRONG_STATE, Start.NO_EDIT_LEFT, d -> d.remove(0, 1));
        Check.refused("the 301st edit, all letters", Check.WRONG_STATE, Start.NONE_LEFT, d -> d.remove(0, 60));
    }

    // "If several exceptions of a throws clause apply, the one that is listed first is thrown."
    private static void removeFirstException() {
        Check.refused("place, count", Check.NO_SUCH, Start.BUSY, d -> d.remove(7, 0));
        Check.refused("place, too many", Check.NO_SUCH, Start.BUSY, d -> d.remove(-1, 8));
        Check.refused("place, 300 edits", Check.NO_SUCH, Start.NO_EDIT_LEFT, d -> d.remove(5, 1));
        Check.refused("count, 300 edits", Check.WRONG_ARGUMENT, Start.NO_EDIT_LEFT, d -> d.remove(0, 0));
        Check.refused("too many, 300 edits", Check.WRONG_ARGUMENT, Start.NO_EDIT_LEFT, d -> d.remove(4, 1));
        Check.refused("all of them", Check.NO_SUCH, Start.NO_EDIT_LEFT, d -> d.remove(-1, 0));
    }

    // "Returns how many comments become orphans by it."
    private static void removeTellsOrphans() {
        Check.due("no comment at all", 0, Check.deskWith("a").remove(0, 1));
        MarginDesk twelve = Start.FULL.get();
        for (int comment = 3; comment < 12; comment++) {
            twelve.comment(comment, 50, comment % 4);
        }
        Check.due("none of 12", 0, twelve.remove(3, 8));
        Check.due("all 12", 12, twelve.remove(0, 52));
        MarginDesk again = Start.TWELVE_COMMENTS.get();
        Check.due("those that are orphans do not become it", 2, again.remove(1, 1));
        Check.due("resolved ones do", 2, again.remove(0, 1));
        Check.due("a suggestion is none", 0, Check.desk(d -> {
            d.insert(0, 0, 2);
            d.suggest(0, 1, 1, 1);
        }).remove(0, 1));
    }

    // ---- length, letterAt, version

    // "The document is a row of letters, .. at most 60, empty at first."
    private static void lengthAtItsEdges() {
        Check.due("the least", 0, Start.EMPTY.get().length());
        Check.due("the greatest", 60, Start.FULL.get().length());
        MarginDesk desk = Check.deskWith("ab");
        desk.remove(0, 2);
        Check.due("empty again", 0, desk.length());
        Check.due("an empty one can be written on again", 1, desk.insert(0, 3, 1));
    }

    // "place: a place"; "Throws IndexOutOfBoundsException if there is no such place"
    private static void letterAtAllEdges() {
        for (Start start : Start.values()) {
            for (int place : Check.edges(0, start.length)) {
                Check.meets(start + ".letterAt(" + place + ")", start, d -> d.letterAt(place),
                    Check.outside(place, 0, start.length), false, false,
                    () -> place == start.length ? -1 : start.document.charAt(place) - 'a');
            }
        }
    }

    // "Returns the letter behind it; NONE at the end."
    private static void letterAtTheEnd() {
        MarginDesk desk = Check.deskWith("xaz");
        Check.due("the first", 23, desk.letterAt(0));
        Check.due("the letter 0", 0, desk.letterAt(1));
        Check.due("the last", 25, desk.letterAt(2));
        Check.due("at the end", -1, desk.letterAt(3));
        Check.due("at the end of the empty one", -1, new MarginDesk().letterAt(0));
        Check.due("at the end of 60", -1, Start.FULL.get().letterAt(60));
        Check.due("the 60th", 0, Start.FULL.get().letterAt(59));
        desk.remove(2, 1);
        Check.due("where a letter was", -1, desk.letterAt(2));
        Check.refused("behind the end", Check.NO_SUCH, () -> Check.deskWith("xaz"), d -> d.letterAt(4));
        Check.refused("ahead of the beginning", Check.NO_SUCH, () -> Check.deskWith("xaz"), d -> d.letterAt(-1));
    }

    /** Numbers far outside are not taken for those that are left of them in fewer bits. */
    private static void wrapAround() {
        for (int number : Check.WRAPPING) {
            Check.refused("insert at " + number, Check.NO_SUCH, Start.BUSY, d -> d.insert(number, 0, 1));
            Check.refused("insert of " + number, Check.WRONG_ARGUMENT, Start.BUSY, d -> d.insert(0, number, 1));
            Check.refused("insert so many: " + number, Check.WRONG_ARGUMENT, Start.BUSY, d -> d.insert(0, 0, number));
            Check.refused("remove at " + number, Check.NO_SUCH, Start.BUSY, d -> d.remove(number, 1));
            Check.refused("remove so many: " + number, Check.WRONG_ARGUMENT, Start.BUSY, d -> d.remove(0, number));
            Check.refused("letterAt(" + number + ")", Check.NO_SUCH, Start.BUSY, d -> d.letterAt(number));
        }
        for (int at = 1; at <= 6; at++) {
            int place = at;
            int past = Integer.MAX_VALUE - at + 1;
            Check.refused("their sum is int's least", Check.WRONG_ARGUMENT, Start.BUSY, d -> d.remove(place, past));
        }
    }

    // "The version is how many edits there were: insertions of letters, and taking away."
    private static void versionAtItsEdges() {
        Check.due("no edits", 0, Start.EMPTY.get().version());
        Check.due("300 edits", 300, Start.NO_EDIT_LEFT.get().version());
        MarginDesk desk = new MarginDesk();
        desk.insert(0, 0, 10);
        Check.due("10 letters put in are one edit", 1, desk.version());
        desk.remove(0, 10);
        Check.due("10 letters taken away are one more", 2, desk.version());
    }
}
