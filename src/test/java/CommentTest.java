/** Promises 7 to 9, 11, 12, 14 and 15, and how the ends of ranges move. */
final class CommentTest {
    public static void main(String[] args) {
        numbers();
        insertionMovesEnds();
        takingAwayMovesEnds();
        takingAwayAllMakesOrphans();
        orphansStayThatByEdits();
        acceptingMovesEndsAsTwoEdits();
        answersAndResolving();
        Check.end("CommentTest");
    }

    private static void numbers() {
        MarginDesk desk = Check.deskWith("abcd");
        for (int number = 0; number < 12; number++) {
            Check.due("comments", number, desk.comments());
            Check.due("comment's number", number, desk.comment(number % 4, 4, number % 4));
            Check.due("rangeOf", 100 * (number % 4) + 4, desk.rangeOf(number));
        }
        Check.due("comments", 12, desk.comments());
        Check.due("all are open", 0xFFF, desk.open());
        Check.due("none is an orphan", 0, desk.orphans());
        desk.remove(0, 4);
        Check.due("orphans count as comments", 12, desk.comments());
        Check.due("all are orphans", 0xFFF, desk.orphans());
        Check.due("orphans are open", 0xFFF, desk.open());
    }

    private static int rangeBehindInsertion(int sticky, int at) {
        MarginDesk desk = Check.deskWith("abcdefgh");
        desk.comment(3, 5, sticky);
        desk.insert(at, 25, 2);
        return desk.rangeOf(0);
    }

    private static void insertionMovesEnds() {
        int[] aheadOfBeginning = {507, 507, 507, 507};
        int[] atBeginning = {507, 307, 507, 307};
        int[] within = {307, 307, 307, 307};
        int[] atEnd = {305, 305, 307, 307};
        int[] behindEnd = {305, 305, 305, 305};
        for (int sticky = 0; sticky <= 3; sticky++) {
            Check.due("insertion ahead, sticky " + sticky, aheadOfBeginning[sticky], rangeBehindInsertion(sticky, 2));
            Check.due("insertion at 0, sticky " + sticky, aheadOfBeginning[sticky], rangeBehindInsertion(sticky, 0));
            Check.due("insertion at the beginning, sticky " + sticky, atBeginning[sticky], rangeBehindInsertion(sticky, 3));
            Check.due("insertion within, sticky " + sticky, within[sticky], rangeBehindInsertion(sticky, 4));
            Check.due("insertion at the end, sticky " + sticky, atEnd[sticky], rangeBehindInsertion(sticky, 5));
            Check.due("insertion behind, sticky " + sticky, behindEnd[sticky], rangeBehindInsertion(sticky, 6));
        }
    }

    private static int rangeBehindTakingAway(int at, int count) {
        MarginDesk desk = Check.deskWith("abcdefgh");
        desk.comment(3, 6, 0);
        desk.remove(at, count);
        return desk.rangeOf(0);
    }

    private static void takingAwayMovesEnds() {
        Check.due("wholly ahead", 205, rangeBehindTakingAway(0, 1));
        Check.due("up to the beginning", 104, rangeBehindTakingAway(1, 2));
        Check.due("over the beginning", 103, rangeBehindTakingAway(1, 3));
        Check.due("from the beginning on", 304, rangeBehindTakingAway(3, 2));
        Check.due("within", 305, rangeBehindTakingAway(4, 1));
        Check.due("up to the end", 304, rangeBehindTakingAway(4, 2));
        Check.due("over the end", 305, rangeBehindTakingAway(5, 2));
        Check.due("from the end on", 306, rangeBehindTakingAway(6, 2));
        Check.due("just the range", MarginDesk.NONE, rangeBehindTakingAway(3, 3));
        Check.due("more than the range", MarginDesk.NONE, rangeBehindTakingAway(2, 5));
        Check.due("all", MarginDesk.NONE, rangeBehindTakingAway(0, 8));
    }

    private static void takingAwayAllMakesOrphans() {
        MarginDesk desk = Check.deskWith("abcdef");
        desk.comment(1, 3, 3);
        desk.comment(0, 6, 0);
        desk.comment(2, 3, 0);
        desk.remove(2, 1);
        Check.due("orphans", 4, desk.orphans());
        desk.remove(1, 1);
        Check.due("orphans", 5, desk.orphans());
        Check.due("rangeOf an orphan", MarginDesk.NONE, desk.rangeOf(0));
        Check.due("rangeOf the one that is left", 4, desk.rangeOf(1));
    }

    private static void orphansStayThatByEdits() {
        MarginDesk desk = Check.deskWith("abc");
        desk.comment(1, 2, 3);
        desk.remove(1, 1);
        desk.insert(1, 1, 3);
        Check.due("an insertion where its range was", MarginDesk.NONE, desk.rangeOf(0));
        Check.due("cover there", 0, desk.cover(1));
        desk.remove(0, 2);
        desk.insert(0, 4, 2);
        Check.due("orphans", 1, desk.orphans());
    }

    private static void acceptingMovesEndsAsTwoEdits() {
        MarginDesk desk = Check.deskWith("abcdefgh");
        desk.comment(0, 3, 0);
        desk.comment(0, 3, 2);
        desk.comment(5, 8, 0);
        desk.comment(5, 8, 1);
        desk.comment(3, 5, 3);
        desk.comment(2, 6, 0);
        desk.comment(4, 7, 1);
        desk.suggest(3, 5, 25, 4);
        desk.accept(0);
        Check.due("document", "abczzzzfgh", Check.document(desk));
        Check.due("ends ahead, not sticky", 3, desk.rangeOf(0));
        Check.due("ends ahead, sticky", 7, desk.rangeOf(1));
        Check.due("begins behind, not sticky", 710, desk.rangeOf(2));
        Check.due("begins behind, sticky", 310, desk.rangeOf(3));
        Check.due("the same range", MarginDesk.NONE, desk.rangeOf(4));
        Check.due("round it", 208, desk.rangeOf(5));
        Check.due("over its end, sticky", 309, desk.rangeOf(6));
    }

    private static void answersAndResolving() {
        MarginDesk desk = Check.deskWith("abc");
        desk.comment(0, 1, 0);
        desk.comment(1, 2, 0);
        desk.comment(2, 3, 0);
        Check.due("first answer", 1, desk.answer(1));
        Check.due("second answer", 2, desk.answer(1));
        Check.due("each comment has its own", 1, desk.answer(2));
        Check.due("open", 7, desk.open());
        Check.due("resolve an open one", true, desk.resolve(1));
        Check.due("resolve it again", false, desk.resolve(1));
        Check.due("open", 5, desk.open());
        Check.due("an answer opens it", 3, desk.answer(1));
        Check.due("open", 7, desk.open());
        Check.due("resolve it once more", true, desk.resolve(1));
        desk.resolve(0);
        desk.remove(0, 2);
        Check.due("an edit opens none", 4, desk.open());
        Check.due("answer an orphan", 1, desk.answer(0));
        Check.due("open", 5, desk.open());
        Check.due("resolve an orphan", true, desk.resolve(0));
        Check.due("orphans", 3, desk.orphans());
        Check.due("rangeOf a comment that is open", 1, desk.rangeOf(2));
        desk.resolve(2);
        Check.due("rangeOf a resolved one", 1, desk.rangeOf(2));
    }
}
