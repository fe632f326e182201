/** Promises 1 to 6: the document. */
final class DocumentTest {
    public static void main(String[] args) {
        newObject();
        insertPutsLettersAtThePlace();
        insertTakesItsLimits();
        removeTakesLettersFromThePlaceOn();
        removeTellsHowManyComments();
        versionCountsEdits();
        Check.end("DocumentTest");
    }

    private static void newObject() {
        MarginDesk desk = new MarginDesk();
        Check.due("length of a new object", 0, desk.length());
        Check.due("version of a new object", 0, desk.version());
        Check.due("letterAt(0) of a new object", MarginDesk.NONE, desk.letterAt(0));
        Check.due("comments of a new object", 0, desk.comments());
        Check.due("open of a new object", 0, desk.open());
        Check.due("orphans of a new object", 0, desk.orphans());
        Check.due("pieces of a new object", 0, desk.pieces());
        Check.due("cover(0) of a new object", 0, desk.cover(0));
        Check.due("coverByLetters(0) of a new object", 0, desk.coverByLetters(0));
        MarginDesk other = Check.deskWith("abc");
        Check.due("a second object beside it", 3, other.length());
        Check.due("the first object stays empty", 0, desk.length());
    }

    private static void insertPutsLettersAtThePlace() {
        MarginDesk desk = new MarginDesk();
        Check.due("insert at the beginning", 2, desk.insert(0, 0, 2));
        Check.due("insert at the end", 4, desk.insert(2, 25, 2));
        Check.due("insert in the midst", 7, desk.insert(2, 12, 3));
        Check.due("insert at the beginning again", 8, desk.insert(0, 1, 1));
        Check.due("document", "baammmzz", Check.document(desk));
        Check.due("length", 8, desk.length());
        Check.due("letterAt(0)", 1, desk.letterAt(0));
        Check.due("letterAt(7)", 25, desk.letterAt(7));
        Check.due("letterAt the end", MarginDesk.NONE, desk.letterAt(8));
    }

    private static void insertTakesItsLimits() {
        MarginDesk desk = new MarginDesk();
        for (int tens = 1; tens <= 6; tens++) {
            Check.due("insert of 10", 10 * tens, desk.insert(0, tens, 10));
        }
        Check.due("length when full", 60, desk.length());
        Check.due("letterAt(59)", 1, desk.letterAt(59));
        Check.due("letterAt(60)", MarginDesk.NONE, desk.letterAt(60));
        Check.due("remove from the full document", 0, desk.remove(0, 1));
        Check.due("insert up to 60", 60, desk.insert(59, 0, 1));
        Check.due("remove all", 0, desk.remove(0, 60));
        Check.due("length then", 0, desk.length());
        Check.due("version then", 9, desk.version());
    }

    private static void removeTakesLettersFromThePlaceOn() {
        MarginDesk desk = Check.deskWith("abcdefgh");
        Check.due("remove in the midst", 0, desk.remove(2, 3));
        Check.due("document", "abfgh", Check.document(desk));
        Check.due("remove the last", 0, desk.remove(4, 1));
        Check.due("remove the first", 0, desk.remove(0, 1));
        Check.due("document", "bfg", Check.document(desk));
        Check.due("remove all", 0, desk.remove(0, 3));
        Check.due("document", "", Check.document(desk));
    }

    private static void removeTellsHowManyComments() {
        MarginDesk desk = Check.deskWith("abcdefgh");
        desk.comment(2, 4, 0);
        desk.comment(2, 4, 3);
        desk.comment(3, 5, 0);
        desk.comment(0, 8, 0);
        desk.suggest(2, 3, 0, 1);
        Check.due("two ranges gone", 2, desk.remove(2, 2));
        Check.due("one more gone, the two not again", 1, desk.remove(1, 3));
        Check.due("orphans", 7, desk.orphans());
        Check.due("the last one", 1, desk.remove(0, 3));
        Check.due("orphans", 15, desk.orphans());
    }

    private static void versionCountsEdits() {
        MarginDesk desk = Check.deskWith("abcd");
        Check.due("after 4 insertions", 4, desk.version());
        desk.comment(0, 1, 0);
        desk.suggest(0, 1, 0, 0);
        desk.suggest(1, 2, 0, 5);
        desk.answer(0);
        desk.resolve(0);
        Check.due("no edits", 4, desk.version());
        desk.remove(3, 1);
        Check.due("after taking away", 5, desk.version());
        desk.accept(0);
        Check.due("accepted with count 0", 6, desk.version());
        desk.accept(1);
        Check.due("accepted with a count", 8, desk.version());
        desk.insert(0, 0, 1);
        Check.due("not the letters are counted", 9, desk.version());
        desk.find(0);
        Check.due("finding is no edit", 9, desk.version());
        desk.suggest(0, 1, 0, 0);
        desk.reject(2);
        Check.due("rejecting is no edit", 9, desk.version());
    }
}
