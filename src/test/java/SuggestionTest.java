/** Promises 20 to 24: suggestions. */
final class SuggestionTest {
    public static void main(String[] args) {
        numbersAndStates();
        acceptTakesAndPuts();
        acceptWithoutLetters();
        rangesAreNotSticky();
        goneByAnEdit();
        statesThatStay();
        overlapsOfWaitingOnes();
        acceptedOneByOne();
        rejectTellsHowManyWait();
        Check.end("SuggestionTest");
    }

    private static void numbersAndStates() {
        MarginDesk desk = Check.deskWith("abcd");
        for (int number = 0; number < 10; number++) {
            Check.due("suggestion's number", number, desk.suggest(number % 4, 4, 25, number % 6));
            Check.due("its state", MarginDesk.WAITING, desk.stateOf(number));
        }
        Check.due("making them is no edit", 4, desk.version());
        Check.due("the document stays", "abcd", Check.document(desk));
        Check.due("they are no comments", 0, desk.comments());
    }

    private static void acceptTakesAndPuts() {
        MarginDesk desk = Check.deskWith("abcdef");
        desk.suggest(1, 4, 25, 2);
        desk.suggest(4, 6, 24, 5);
        desk.suggest(0, 1, 0, 1);
        Check.due("accept", 5, desk.accept(0));
        Check.due("document", "azzef", Check.document(desk));
        Check.due("state", MarginDesk.ACCEPTED, desk.stateOf(0));
        Check.due("accept at the end", 8, desk.accept(1));
        Check.due("document", "azzyyyyy", Check.document(desk));
        Check.due("accept at the beginning", 8, desk.accept(2));
        Check.due("document", "azzyyyyy", Check.document(desk));
        Check.due("version", 12, desk.version());
    }

    private static void acceptWithoutLetters() {
        MarginDesk desk = Check.deskWith("abc");
        desk.suggest(0, 3, 25, 0);
        Check.due("accept", 0, desk.accept(0));
        Check.due("state", MarginDesk.ACCEPTED, desk.stateOf(0));
        Check.due("one edit", 4, desk.version());
        Check.due("length", 0, desk.length());
    }

    private static void rangesAreNotSticky() {
        MarginDesk desk = Check.deskWith("abcd");
        desk.suggest(1, 3, 25, 1);
        desk.insert(1, 10, 1);
        desk.insert(4, 11, 1);
        desk.insert(3, 12, 1);
        desk.insert(0, 13, 1);
        Check.due("document", "nakbmcld", Check.document(desk));
        desk.accept(0);
        Check.due("document", "nakzld", Check.document(desk));
    }

    private static void goneByAnEdit() {
        MarginDesk desk = Check.deskWith("abcdef");
        desk.suggest(1, 3, 25, 1);
        desk.suggest(2, 5, 25, 1);
        desk.suggest(0, 6, 25, 1);
        desk.remove(1, 1);
        Check.due("a part of it is left", MarginDesk.WAITING, desk.stateOf(0));
        desk.remove(1, 1);
        Check.due("gone", MarginDesk.GONE, desk.stateOf(0));
        Check.due("the other one", MarginDesk.WAITING, desk.stateOf(1));
        Check.due("a gone one overlaps none", 0, desk.overlaps(0));
        Check.due("and none overlaps it", 4, desk.overlaps(1));
        desk.insert(1, 1, 2);
        Check.due("it does not come back", MarginDesk.GONE, desk.stateOf(0));
        desk.remove(0, desk.length());
        Check.due("gone", MarginDesk.GONE, desk.stateOf(1));
        Check.due("gone", MarginDesk.GONE, desk.stateOf(2));
    }

    private static void statesThatStay() {
        MarginDesk desk = Check.deskWith("abcdef");
        desk.suggest(0, 2, 25, 2);
        desk.suggest(2, 4, 25, 2);
        desk.accept(0);
        desk.reject(1);
        desk.remove(0, 6);
        Check.due("accepted", MarginDesk.ACCEPTED, desk.stateOf(0));
        Check.due("rejected", MarginDesk.REJECTED, desk.stateOf(1));
    }

    private static void overlapsOfWaitingOnes() {
        MarginDesk desk = Check.deskWith("abcdefgh");
        desk.suggest(0, 3, 0, 0);
        desk.suggest(2, 5, 0, 0);
        desk.suggest(5, 6, 0, 0);
        desk.suggest(3, 4, 0, 0);
        desk.suggest(0, 8, 0, 0);
        Check.due("overlaps(0)", 2 + 16, desk.overlaps(0));
        Check.due("overlaps(1)", 1 + 8 + 16, desk.overlaps(1));
        Check.due("overlaps(2), ranges that touch", 16, desk.overlaps(2));
        Check.due("overlaps(3)", 2 + 16, desk.overlaps(3));
        Check.due("overlaps(4)", 15, desk.overlaps(4));
        desk.reject(4);
        Check.due("a rejected one", 0, desk.overlaps(4));
        Check.due("none with the rejected one", 2, desk.overlaps(0));
        desk.remove(2, 1);
        Check.due("the letter of both is taken away", 0, desk.overlaps(0));
        Check.due("the rest of it", 8, desk.overlaps(1));
    }

    private static void acceptedOneByOne() {
        MarginDesk desk = Check.deskWith("abcdef");
        desk.suggest(0, 2, 23, 1);
        desk.suggest(2, 4, 24, 3);
        desk.suggest(4, 6, 25, 0);
        desk.suggest(1, 5, 22, 1);
        desk.reject(3);
        Check.due("ranges that touch are no hindrance", 7, desk.accept(1));
        Check.due("the others wait", MarginDesk.WAITING, desk.stateOf(0));
        Check.due("the others wait", MarginDesk.WAITING, desk.stateOf(2));
        Check.due("the one ahead", 6, desk.accept(0));
        Check.due("the one behind", 4, desk.accept(2));
        Check.due("document", "xyyy", Check.document(desk));
    }

    private static void rejectTellsHowManyWait() {
        MarginDesk desk = Check.deskWith("abcdef");
        for (int suggestion = 0; suggestion < 5; suggestion++) {
            desk.suggest(suggestion, suggestion + 1, 25, 1);
        }
        Check.due("four wait", 4, desk.reject(2));
        Check.due("state", MarginDesk.REJECTED, desk.stateOf(2));
        desk.accept(0);
        desk.remove(1, 1);
        Check.due("an accepted and a gone one wait no more", 1, desk.reject(3));
        Check.due("none waits", 0, desk.reject(4));
        Check.due("the document of a rejected one stays", "zcdef", Check.document(desk));
    }
}
