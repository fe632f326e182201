/** Promises 16 to 19 at their edges: a test for each sentence that names one. The sentence stands ahead of it. */
final class PieceEdgesTest {
    public static void main(String[] args) {
        coverAtAllEdges();
        coverPlaces();
        coverAtTheEnd();
        coverOpenOrNot();
        coverAtEndsOfRanges();
        coverByLettersPlaces();
        coverByLettersAtTheEnd();
        coverByLettersWhenInserted();
        coverByLettersWhenMadeOrFound();
        piecesOfNothing();
        piecesAsLongAsCanBe();
        piecesAtTheEdgesOfTheDocument();
        piecesAtMost();
        pieceAtAllEdges();
        pieceAtFirstAndLast();
        pieceAtBelow0();
        pieceAtNotSoMany();
        wrapAround();
        Check.end("PieceEdgesTest");
    }

    // ---- cover, coverByLetters

    private static void coverAtAllEdges() {
        for (Start start : Start.values()) {
            for (int place : Check.edges(0, start.length)) {
                boolean noSuch = Check.outside(place, 0, start.length);
                Check.meets(start + ".cover(" + place + ")", start, d -> d.cover(place),
                    noSuch, false, false, () -> start.coverAt(place));
                Check.meets(start + ".coverByLetters(" + place + ")", start, d -> d.coverByLetters(place),
                    noSuch, false, false, () -> start.coverAt(place));
            }
        }
    }

    // cover: "Throws IndexOutOfBoundsException if there is no such place"
    private static void coverPlaces() {
        Check.refused("cover(-1)", Check.NO_SUCH, Start.BUSY, d -> d.cover(-1));
        Check.due("cover(0)", 1, Start.BUSY.get().cover(0));
        Check.due("cover(5)", 2, Start.BUSY.get().cover(5));
        Check.due("cover(6)", 0, Start.BUSY.get().cover(6));
        Check.refused("cover(7)", Check.NO_SUCH, Start.BUSY, d -> d.cover(7));
        Check.refused("int's least", Check.NO_SUCH, Start.BUSY, d -> d.cover(Integer.MIN_VALUE));
        Check.refused("int's greatest", Check.NO_SUCH, Start.BUSY, d -> d.cover(Integer.MAX_VALUE));
        Check.refused("cover(1) of the empty one", Check.NO_SUCH, Start.EMPTY, d -> d.cover(1));
        Check.refused("cover(61) of 60 letters", Check.NO_SUCH, Start.FULL, d -> d.cover(61));
    }

    // cover: "Returns the set; 0 at the end of the document."
    private static void coverAtTheEnd() {
        Check.due("of the empty one", 0, Start.EMPTY.get().cover(0));
        Check.due("of 60 letters, where ranges end", 0, Start.FULL.get().cover(60));
        Check.due("the last of 60 letters", 5, Start.FULL.get().cover(59));
        MarginDesk desk = Check.deskWith("ab");
        desk.comment(0, 2, 3);
        desk.remove(1, 1);
        Check.due("where a covered letter was", 0, desk.cover(1));
    }

    // cover: "Returns the comments, open or not, in whose range a letter is."
    private static void coverOpenOrNot() {
        MarginDesk desk = Check.deskWith("a");
        Check.due("no comment", 0, desk.cover(0));
        for (int comment = 0; comment < 12; comment++) {
            desk.comment(0, 1, 0);
        }
        Check.due("12 that are open", 0xFFF, desk.cover(0));
        for (int comment = 0; comment < 12; comment++) {
            desk.resolve(comment);
        }
        Check.due("12 that are not", 0xFFF, desk.cover(0));
        Check.due("12 that are not, by letters", 0xFFF, desk.coverByLetters(0));
    }

    // "the letters from a place to another one are those between"
    private static void coverAtEndsOfRanges() {
        MarginDesk desk = Check.deskWith("abcde");
        desk.comment(1, 3, 3);
        int[] sets = {0, 1, 1, 0, 0, 0};
        for (int place = 0; place <= 5; place++) {
            Check.due("cover(" + place + ")", sets[place], desk.cover(place));
            Check.due("coverByLetters(" + place + ")", sets[place], desk.coverByLetters(place));
        }
    }

    // coverByLetters: "Throws IndexOutOfBoundsException if there is no such place"
    private static void coverByLettersPlaces() {
        Check.refused("coverByLetters(-1)", Check.NO_SUCH, Start.BUSY, d -> d.coverByLetters(-1));
        Check.due("coverByLetters(0)", 1, Start.BUSY.get().coverByLetters(0));
        Check.due("coverByLetters(5)", 2, Start.BUSY.get().coverByLetters(5));
        Check.due("coverByLetters(6)", 0, Start.BUSY.get().coverByLetters(6));
        Check.refused("coverByLetters(7)", Check.NO_SUCH, Start.BUSY, d -> d.coverByLetters(7));
        Check.refused("int's least", Check.NO_SUCH, Start.BUSY, d -> d.coverByLetters(Integer.MIN_VALUE));
        Check.refused("int's greatest", Check.NO_SUCH, Start.BUSY, d -> d.coverByLetters(Integer.MAX_VALUE));
        Check.refused("coverByLetters(1) of the empty one", Check.NO_SUCH, Start.EMPTY, d -> d.coverByLetters(1));
        Check.refused("coverByLetters(61) of 60", Check.NO_SUCH, Start.FULL, d -> d.coverByLetters(61));
    }

    // coverByLetters: "Returns the set; 0 at the end of the document."
    private static void coverByLettersAtTheEnd() {
        Check.due("of the empty one", 0, Start.EMPTY.get().coverByLetters(0));
        Check.due("of 60 letters, where ranges end", 0, Start.FULL.get().coverByLetters(60));
        MarginDesk desk = Check.deskWith("ab");
        desk.comment(0, 2, 3);
        desk.remove(1, 1);
        Check.due("where a covered letter was", 0, desk.coverByLetters(1));
    }

    // "each letter keeps which comments it came to when it was inserted"
    private static void coverByLettersWhenInserted() {
        int[] atBeginning = {0, 1, 0, 1};
        int[] atEnd = {0, 0, 1, 1};
        for (int sticky = 0; sticky <= 3; sticky++) {
            Check.due("within, sticky " + sticky, 1, insertedInto13(sticky, 2).coverByLetters(2));
            Check.due("at its beginning, sticky " + sticky, atBeginning[sticky], insertedInto13(sticky, 1).coverByLetters(1));
            Check.due("at its end, sticky " + sticky, atEnd[sticky], insertedInto13(sticky, 3).coverByLetters(3));
            Check.due("ahead of it, sticky " + sticky, 0, insertedInto13(sticky, 0).coverByLetters(0));
            Check.due("behind it, sticky " + sticky, 0, insertedInto13(sticky, 4).coverByLetters(4));
        }
        MarginDesk desk = insertedInto13(3, 3);
        desk.remove(1, 2);
        Check.due("the letter that came to it later is left", 1, desk.coverByLetters(1));
        Check.due("and it has a range", 102, desk.rangeOf(0));
        MarginDesk ten = Check.deskWith("abcd");
        ten.comment(1, 3, 3);
        ten.insert(3, 25, 10);
        Check.due("the last of ten letters", 1, ten.coverByLetters(12));
        Check.due("the letter behind them", 0, ten.coverByLetters(13));
    }

    private static MarginDesk insertedInto13(int sticky, int at) {
        MarginDesk desk = Check.deskWith("abcd");
        desk.comment(1, 3, sticky);
        desk.insert(at, 25, 1);
        return desk;
    }

    // "or when they were made or found again"
    private static void coverByLettersWhenMadeOrFound() {
        MarginDesk desk = Check.deskWith("abcd");
        Check.due("not made yet", 0, desk.coverByLetters(1));
        desk.comment(1, 3, 0);
        Check.due("made", 1, desk.coverByLetters(1));
        Check.due("made", 1, desk.coverByLetters(2));
        desk.remove(1, 2);
        Check.write(desk, 0, "bc");
        Check.due("an orphan", 0, desk.coverByLetters(0));
        desk.find(0);
        Check.due("ahead of the found one", 1, desk.coverByLetters(0));
        Check.due("the last of the found one", 1, desk.coverByLetters(1));
        Check.due("behind the found one", 0, desk.coverByLetters(2));
    }

    // ---- pieces

    // "Returns in how many pieces the document is shown": a row has a letter at least.
    private static void piecesOfNothing() {
        Check.due("the empty one", 0, Start.EMPTY.get().pieces());
        MarginDesk desk = Check.deskWith("ab");
        desk.comment(0, 1, 3);
        desk.remove(0, 2);
        Check.due("empty again, with an orphan", 0, desk.pieces());
    }

    // "rows of letters beside one another, as long as can be, that are in the ranges of the same comments"
    private static void piecesAsLongAsCanBe() {
        Check.due("one letter", 1, Check.deskWith("a").pieces());
        MarginDesk plain = new MarginDesk();
        Start.fill(plain);
        Check.due("60 letters, no comment", 1, plain.pieces());
        plain.comment(0, 60, 0);
        Check.due("60 letters, one comment on all", 1, plain.pieces());
        plain.comment(0, 30, 0);
        plain.comment(30, 60, 0);
        Check.due("ranges that touch", 2, plain.pieces());
        MarginDesk apart = Check.deskWith("abcde");
        apart.comment(0, 2, 0);
        apart.comment(3, 5, 0);
        Check.due("one letter between", 3, apart.pieces());
        apart.remove(2, 1);
        Check.due("nothing between", 2, apart.pieces());
        MarginDesk same = Check.deskWith("abcd");
        same.comment(1, 3, 0);
        same.comment(1, 3, 3);
        Check.due("the same range twice", 3, same.pieces());
        MarginDesk nested = Check.deskWith("abcde");
        nested.comment(0, 5, 0);
        nested.comment(2, 3, 0);
        Check.due("the same comments on both sides of a letter", 3, nested.pieces());
    }

    private static void piecesAtTheEdgesOfTheDocument() {
        MarginDesk first = Check.deskWith("abc");
        first.comment(0, 1, 0);
        Check.due("the first letter alone", 2, first.pieces());
        Check.due("the second piece", 1, first.pieceAt(1));
        MarginDesk last = Check.deskWith("abc");
        last.comment(2, 3, 0);
        Check.due("the last letter alone", 2, last.pieces());
        Check.due("the second piece", 2, last.pieceAt(1));
    }

    // "at most 12" comments: their ranges have 24 ends, so that there are 25 pieces at most.
    private static void piecesAtMost() {
        MarginDesk most = new MarginDesk();
        Start.fill(most);
        for (int comment = 0; comment < 12; comment++) {
            most.comment(4 * comment + 2, 4 * comment + 4, 0);
        }
        Check.due("24 ends", 25, most.pieces());
        for (int piece = 0; piece < 25; piece++) {
            Check.due("pieceAt(" + piece + ")", 2 * piece, most.pieceAt(piece));
        }
        MarginDesk letters = Check.deskWith("abcde");
        for (int comment = 0; comment < 5; comment++) {
            letters.comment(0, comment + 1, 0);
        }
        Check.due("each letter a piece", 5, letters.pieces());
    }

    // ---- pieceAt

    private static int piecesOf(Start start) {
        int pieces = 0;
        for (int place = 0; place < start.length; place++) {
            boolean begins = place == 0 || start.coverAt(place) != start.coverAt(place - 1);
            pieces += begins ? 1 : 0;
        }
        return pieces;
    }

    private static int lastPieceOf(Start start) {
        int place = start.length - 1;
        while (place > 0 && start.coverAt(place) == start.coverAt(place - 1)) {
            place--;
        }
        return place;
    }

    private static void pieceAtAllEdges() {
        for (Start start : Start.values()) {
            int pieces = piecesOf(start);
            Check.due(start + ".pieces()", pieces, start.get().pieces());
            for (int piece : Check.edges(0, pieces - 1)) {
                Check.meets(start + ".pieceAt(" + piece + ")", start, d -> d.pieceAt(piece),
                    Check.outside(piece, 0, pieces - 1), false, false,
                    () -> piece == 0 ? 0 : lastPieceOf(start));
            }
        }
    }

    // "piece: 0 for the first one"; "Returns the place at which a piece begins."
    private static void pieceAtFirstAndLast() {
        Check.due("the only one", 0, Check.deskWith("a").pieceAt(0));
        MarginDesk desk = Check.deskWith("abc");
        desk.comment(1, 2, 0);
        Check.due("the first", 0, desk.pieceAt(0));
        Check.due("the second", 1, desk.pieceAt(1));
        Check.due("the last", 2, desk.pieceAt(2));
    }

    // "Throws IndexOutOfBoundsException if .. piece is below 0"
    private static void pieceAtBelow0() {
        Check.refused("-1", Check.NO_SUCH, Start.BUSY, d -> d.pieceAt(-1));
        Check.refused("int's least", Check.NO_SUCH, Start.BUSY, d -> d.pieceAt(Integer.MIN_VALUE));
        Check.refused("-1 of the empty one", Check.NO_SUCH, Start.EMPTY, d -> d.pieceAt(-1));
        Check.refused("-1 of 60 letters", Check.NO_SUCH, Start.FULL, d -> d.pieceAt(-1));
    }

    /** Numbers far outside are not taken for those that are left of them in fewer bits. */
    private static void wrapAround() {
        for (int number : Check.WRAPPING) {
            Check.refused("cover(" + number + ")", Check.NO_SUCH, Start.BUSY, d -> d.cover(number));
            Check.refused("coverByLetters(" + number + ")", Check.NO_SUCH, Start.BUSY, d -> d.coverByLetters(number));
            Check.refused("pieceAt(" + number + ")", Check.NO_SUCH, Start.BUSY, d -> d.pieceAt(number));
        }
    }

    // "Throws IndexOutOfBoundsException if there are not so many"
    private static void pieceAtNotSoMany() {
        Check.due("the third of BUSY", 3, Start.BUSY.get().pieceAt(2));
        Check.refused("the fourth", Check.NO_SUCH, Start.BUSY, d -> d.pieceAt(3));
        Check.refused("the first of the empty one", Check.NO_SUCH, Start.EMPTY, d -> d.pieceAt(0));
        Check.refused("the second of one", Check.NO_SUCH, () -> Check.deskWith("abc"), d -> d.pieceAt(1));
        Check.refused("the third of 60 letters", Check.NO_SUCH, Start.FULL, d -> d.pieceAt(2));
        Check.refused("int's greatest", Check.NO_SUCH, Start.BUSY, d -> d.pieceAt(Integer.MAX_VALUE));
    }
}
