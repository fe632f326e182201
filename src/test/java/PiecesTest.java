/** Promises 16 to 19: which comments a letter is in, and the pieces. */
final class PiecesTest {
    public static void main(String[] args) {
        coverOfOverlappingRanges();
        coverByLettersIsTheSame();
        piecesOfOverlappingRanges();
        piecesAreAsLongAsCanBe();
        resolvedCommentsCount();
        Check.end("PiecesTest");
    }

    private static void dueCover(MarginDesk desk, int... sets) {
        for (int place = 0; place < sets.length; place++) {
            Check.due("cover(" + place + ")", sets[place], desk.cover(place));
            Check.due("coverByLetters(" + place + ")", sets[place], desk.coverByLetters(place));
        }
        Check.due("as many letters", sets.length - 1, desk.length());
    }

    private static void duePieces(MarginDesk desk, int... places) {
        Check.due("pieces", places.length, desk.pieces());
        for (int piece = 0; piece < places.length; piece++) {
            Check.due("pieceAt(" + piece + ")", places[piece], desk.pieceAt(piece));
        }
    }

    private static void coverOfOverlappingRanges() {
        MarginDesk desk = Check.deskWith("abcdef");
        desk.comment(0, 6, 0);
        desk.comment(1, 4, 0);
        desk.comment(3, 5, 0);
        dueCover(desk, 1, 3, 3, 7, 5, 1, 0);
        for (int comment = 3; comment < 12; comment++) {
            desk.comment(5, 6, 0);
        }
        Check.due("the last letter", 0xFF9, desk.cover(5));
    }

    private static void coverByLettersIsTheSame() {
        MarginDesk desk = Check.deskWith("abcd");
        desk.comment(1, 3, 0);
        desk.comment(1, 3, 1);
        desk.comment(1, 3, 2);
        desk.comment(1, 3, 3);
        desk.insert(3, 9, 2);
        dueCover(desk, 0, 15, 15, 12, 12, 0, 0);
        desk.insert(1, 9, 1);
        dueCover(desk, 0, 10, 15, 15, 12, 12, 0, 0);
        desk.insert(3, 9, 1);
        dueCover(desk, 0, 10, 15, 15, 15, 12, 12, 0, 0);
        desk.remove(2, 3);
        dueCover(desk, 0, 10, 12, 12, 0, 0);
        desk.insert(2, 1, 2);
        dueCover(desk, 0, 10, 8, 8, 12, 12, 0, 0);
        Check.due("the letters of bc do not stand together", MarginDesk.NONE, desk.find(0));
        dueCover(desk, 0, 10, 8, 8, 12, 12, 0, 0);
        desk.insert(4, 2, 1);
        desk.insert(4, 1, 1);
        Check.due("the place of bc", 4, desk.find(0));
        dueCover(desk, 0, 10, 8, 8, 9, 9, 12, 12, 0, 0);
    }

    private static void piecesOfOverlappingRanges() {
        MarginDesk desk = Check.deskWith("abcdefgh");
        duePieces(desk, 0);
        desk.comment(2, 6, 0);
        duePieces(desk, 0, 2, 6);
        desk.comment(4, 8, 0);
        duePieces(desk, 0, 2, 4, 6);
        desk.comment(0, 2, 0);
        duePieces(desk, 0, 2, 4, 6);
        desk.remove(2, 4);
        duePieces(desk, 0, 2);
        desk.remove(0, 4);
        duePieces(desk);
    }

    private static void piecesAreAsLongAsCanBe() {
        MarginDesk desk = Check.deskWith("abcdef");
        desk.comment(1, 3, 0);
        desk.comment(3, 5, 0);
        desk.comment(1, 3, 0);
        duePieces(desk, 0, 1, 3, 5);
        MarginDesk whole = Check.deskWith("abc");
        whole.comment(0, 3, 0);
        duePieces(whole, 0);
        MarginDesk apart = Check.deskWith("abc");
        apart.comment(0, 1, 0);
        apart.comment(2, 3, 0);
        duePieces(apart, 0, 1, 2);
        apart.remove(1, 1);
        duePieces(apart, 0, 1);
        MarginDesk full = new MarginDesk();
        for (int tens = 0; tens < 6; tens++) {
            full.insert(0, 0, 10);
        }
        for (int comment = 0; comment < 12; comment++) {
            full.comment(5 * comment, 5 * comment + 1, 0);
        }
        Check.due("pieces of a full document", 24, full.pieces());
        Check.due("pieceAt(23)", 56, full.pieceAt(23));
    }

    private static void resolvedCommentsCount() {
        MarginDesk desk = Check.deskWith("abc");
        desk.comment(1, 2, 0);
        desk.resolve(0);
        dueCover(desk, 0, 1, 0, 0);
        duePieces(desk, 0, 1, 2);
        desk.suggest(0, 1, 0, 0);
        duePieces(desk, 0, 1, 2);
    }
}
