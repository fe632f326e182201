import java.util.function.Supplier;

/** The exceptions of every call: each one, which comes first, and that nothing changes. */
final class RefusalTest {
    private static final int[] NO_NUMBERS = {-1, Integer.MIN_VALUE, Integer.MAX_VALUE};

    public static void main(String[] args) {
        insert();
        remove();
        places();
        comment();
        commentNumbers();
        rangeThen();
        find();
        pieceAt();
        suggest();
        suggestionNumbers();
        accept();
        reject();
        Check.end("RefusalTest");
    }

    /** Some of everything: comments open, resolved and orphaned, suggestions in every state. */
    private static MarginDesk busy() {
        MarginDesk desk = Check.deskWith("abcdefgh");
        desk.comment(1, 3, 3);
        desk.comment(2, 6, 0);
        desk.comment(7, 8, 1);
        desk.resolve(1);
        desk.answer(0);
        desk.remove(7, 1);
        desk.suggest(0, 1, 25, 1);
        desk.suggest(2, 4, 25, 5);
        desk.suggest(3, 5, 25, 0);
        desk.suggest(5, 6, 25, 2);
        desk.suggest(6, 7, 25, 3);
        desk.accept(0);
        desk.reject(3);
        desk.remove(6, 1);
        return desk;
    }

    static MarginDesk full() {
        MarginDesk desk = new MarginDesk();
        for (int letter = 0; letter < 6; letter++) {
            desk.insert(0, letter, 10);
        }
        return desk;
    }

    /** A desk with so many edits, 10 letters behind an even number of them and 11 behind an odd one. */
    static MarginDesk edited(int edits) {
        MarginDesk desk = new MarginDesk();
        desk.insert(0, 0, 5);
        desk.insert(0, 1, 5);
        for (int edit = 2; edit < edits; edit++) {
            if (edit % 2 == 0) {
                desk.insert(edit % 10, edit % 26, 1);
            } else {
                desk.remove(edit % 10, 1);
            }
        }
        return desk;
    }

    private static void insert() {
        for (int at : new int[] {-1, 7, Integer.MIN_VALUE, Integer.MAX_VALUE}) {
            Check.refused("insert at " + at, Check.NO_SUCH, RefusalTest::busy, d -> d.insert(at, 0, 1));
            Check.refused("insert at " + at + ", all wrong", Check.NO_SUCH, RefusalTest::busy, d -> d.insert(at, 26, 0));
        }
        for (int letter : new int[] {-1, 26, Integer.MIN_VALUE, Integer.MAX_VALUE}) {
            Check.refused("insert of " + letter, Check.WRONG_ARGUMENT, RefusalTest::busy, d -> d.insert(0, letter, 1));
        }
        for (int count : new int[] {-1, 0, 11, Integer.MIN_VALUE, Integer.MAX_VALUE}) {
            Check.refused("insert of so many: " + count, Check.WRONG_ARGUMENT, RefusalTest::busy, d -> d.insert(0, 0, count));
            Check.refused("insert into a full one: " + count, Check.WRONG_ARGUMENT, RefusalTest::full, d -> d.insert(0, 0, count));
        }
        Check.refused("insert of the 61st", Check.WRONG_STATE, RefusalTest::full, d -> d.insert(60, 0, 1));
        Check.refused("insert of 10 into 51", Check.WRONG_STATE, () -> Check.desk(d -> fillTo51(d)), d -> d.insert(0, 0, 10));
        Check.refused("insert into a full one behind its end", Check.NO_SUCH, RefusalTest::full, d -> d.insert(61, 0, 1));
        Check.refused("the 301st edit", Check.WRONG_STATE, () -> edited(300), d -> d.insert(0, 0, 1));
        Check.refused("the 301st edit, wrong letter", Check.WRONG_ARGUMENT, () -> edited(300), d -> d.insert(0, 26, 1));
        Check.refused("the 301st edit, wrong place", Check.NO_SUCH, () -> edited(300), d -> d.insert(11, 26, 1));
        Check.due("the 300th edit", 12, edited(299).insert(0, 0, 1));
    }

    private static void fillTo51(MarginDesk desk) {
        for (int tens = 0; tens < 5; tens++) {
            desk.insert(0, 1, 10);
        }
        desk.insert(0, 2, 1);
    }

    private static void remove() {
        for (int at : new int[] {-1, 7, Integer.MIN_VALUE, Integer.MAX_VALUE}) {
            Check.refused("remove at " + at, Check.NO_SUCH, RefusalTest::busy, d -> d.remove(at, 1));
            Check.refused("remove at " + at + ", all wrong", Check.NO_SUCH, RefusalTest::busy, d -> d.remove(at, 0));
        }
        for (int count : new int[] {-1, 0, 5, Integer.MIN_VALUE, Integer.MAX_VALUE}) {
            Check.refused("remove of " + count, Check.WRONG_ARGUMENT, RefusalTest::busy, d -> d.remove(2, count));
        }
        Check.refused("remove at the end", Check.WRONG_ARGUMENT, RefusalTest::busy, d -> d.remove(6, 1));
        Check.refused("remove from an empty one", Check.WRONG_ARGUMENT, MarginDesk::new, d -> d.remove(0, 1));
        Check.refused("the 301st edit", Check.WRONG_STATE, () -> edited(300), d -> d.remove(0, 1));
        Check.refused("the 301st edit, wrong count", Check.WRONG_ARGUMENT, () -> edited(300), d -> d.remove(0, 11));
        Check.refused("the 301st edit, wrong place", Check.NO_SUCH, () -> edited(300), d -> d.remove(11, 11));
        Check.due("the 300th edit", 0, edited(299).remove(0, 1));
    }

    private static void places() {
        for (int place : new int[] {-1, 7, 60, 61, Integer.MIN_VALUE, Integer.MAX_VALUE}) {
            Check.refused("letterAt(" + place + ")", Check.NO_SUCH, RefusalTest::busy, d -> d.letterAt(place));
            Check.refused("cover(" + place + ")", Check.NO_SUCH, RefusalTest::busy, d -> d.cover(place));
            Check.refused("coverByLetters(" + place + ")", Check.NO_SUCH, RefusalTest::busy, d -> d.coverByLetters(place));
        }
        Check.refused("letterAt(61)", Check.NO_SUCH, RefusalTest::full, d -> d.letterAt(61));
        Check.refused("letterAt(1) of an empty one", Check.NO_SUCH, MarginDesk::new, d -> d.letterAt(1));
    }

    private static MarginDesk withTwelveComments() {
        MarginDesk desk = Check.deskWith("abc");
        for (int comment = 0; comment < 12; comment++) {
            desk.comment(0, 3, 0);
        }
        return desk;
    }

    private static void comment() {
        for (int place : new int[] {-1, 7, Integer.MIN_VALUE, Integer.MAX_VALUE}) {
            Check.refused("comment from " + place, Check.NO_SUCH, RefusalTest::busy, d -> d.comment(place, 3, 0));
            Check.refused("comment to " + place, Check.NO_SUCH, RefusalTest::busy, d -> d.comment(3, place, 0));
            Check.refused("comment to " + place + ", all wrong", Check.NO_SUCH, RefusalTest::busy, d -> d.comment(3, place, 4));
        }
        Check.refused("comment on nothing", Check.WRONG_ARGUMENT, RefusalTest::busy, d -> d.comment(3, 3, 0));
        Check.refused("comment on nothing at the end", Check.WRONG_ARGUMENT, RefusalTest::busy, d -> d.comment(6, 6, 0));
        Check.refused("comment backwards", Check.WRONG_ARGUMENT, RefusalTest::busy, d -> d.comment(4, 3, 0));
        Check.refused("comment in an empty one", Check.WRONG_ARGUMENT, MarginDesk::new, d -> d.comment(0, 0, 0));
        for (int sticky : new int[] {-1, 4, Integer.MIN_VALUE, Integer.MAX_VALUE}) {
            Check.refused("comment sticky " + sticky, Check.WRONG_ARGUMENT, RefusalTest::busy, d -> d.comment(1, 3, sticky));
        }
        Supplier<MarginDesk> twelve = RefusalTest::withTwelveComments;
        Check.refused("a 13th comment", Check.WRONG_STATE, twelve, d -> d.comment(0, 1, 0));
        Check.refused("a 13th comment, wrong sticky", Check.WRONG_ARGUMENT, twelve, d -> d.comment(0, 1, 4));
        Check.refused("a 13th comment, backwards", Check.WRONG_ARGUMENT, twelve, d -> d.comment(1, 0, 0));
        Check.refused("a 13th comment, wrong place", Check.NO_SUCH, twelve, d -> d.comment(0, 4, 4));
        Check.refused("a 13th comment when 12 are orphans", Check.WRONG_STATE, () -> {
            MarginDesk desk = withTwelveComments();
            desk.remove(0, 2);
            desk.insert(0, 1, 2);
            desk.remove(2, 1);
            return desk;
        }, d -> d.comment(0, 1, 0));
    }

    private static void noSuchComment(int comment, Supplier<MarginDesk> make) {
        Check.refused("answer(" + comment + ")", Check.NO_SUCH, make, d -> d.answer(comment));
        Check.refused("resolve(" + comment + ")", Check.NO_SUCH, make, d -> d.resolve(comment) ? 1 : 0);
        Check.refused("find(" + comment + ")", Check.NO_SUCH, make, d -> d.find(comment));
        Check.refused("rangeOf(" + comment + ")", Check.NO_SUCH, make, d -> d.rangeOf(comment));
        Check.refused("rangeThen(" + comment + ", 0)", Check.NO_SUCH, make, d -> d.rangeThen(comment, 0));
    }

    private static void commentNumbers() {
        for (int comment : NO_NUMBERS) {
            noSuchComment(comment, RefusalTest::busy);
            noSuchComment(comment, MarginDesk::new);
        }
        noSuchComment(3, RefusalTest::busy);
        noSuchComment(0, MarginDesk::new);
        noSuchComment(12, RefusalTest::withTwelveComments);
    }

    private static void rangeThen() {
        int now = busy().version();
        for (int version : new int[] {-1, now + 1, 300, 301, Integer.MIN_VALUE, Integer.MAX_VALUE}) {
            Check.refused("rangeThen at " + version, Check.NO_SUCH, RefusalTest::busy, d -> d.rangeThen(0, version));
        }
        Supplier<MarginDesk> last = () -> {
            MarginDesk desk = edited(300);
            desk.comment(0, 1, 0);
            return desk;
        };
        Check.refused("rangeThen at 301", Check.NO_SUCH, last, d -> d.rangeThen(0, 301));
        Check.due("rangeThen at 300", 1, last.get().rangeThen(0, 300));
    }

    private static void find() {
        Check.refused("find one that is no orphan", Check.WRONG_STATE, RefusalTest::busy, d -> d.find(0));
        Check.refused("find a resolved one that is no orphan", Check.WRONG_STATE, RefusalTest::busy, d -> d.find(1));
        Check.due("find an orphan", MarginDesk.NONE, busy().find(2));
        Check.refused("find one that is found", Check.WRONG_STATE, () -> {
            MarginDesk desk = busy();
            desk.insert(0, 7, 1);
            desk.find(2);
            return desk;
        }, d -> d.find(2));
    }

    private static void pieceAt() {
        int pieces = busy().pieces();
        Check.due("pieces", 3, pieces);
        for (int piece : new int[] {-1, pieces, pieces + 1, Integer.MIN_VALUE, Integer.MAX_VALUE}) {
            Check.refused("pieceAt(" + piece + ")", Check.NO_SUCH, RefusalTest::busy, d -> d.pieceAt(piece));
        }
        Check.refused("pieceAt(0) of an empty one", Check.NO_SUCH, MarginDesk::new, d -> d.pieceAt(0));
    }

    private static MarginDesk withTenSuggestions() {
        MarginDesk desk = Check.deskWith("abc");
        for (int suggestion = 0; suggestion < 10; suggestion++) {
            desk.suggest(0, 3, 0, 0);
        }
        desk.reject(3);
        return desk;
    }

    private static void suggest() {
        for (int place : new int[] {-1, 7, Integer.MIN_VALUE, Integer.MAX_VALUE}) {
            Check.refused("suggest from " + place, Check.NO_SUCH, RefusalTest::busy, d -> d.suggest(place, 3, 0, 0));
            Check.refused("suggest to " + place, Check.NO_SUCH, RefusalTest::busy, d -> d.suggest(3, place, 0, 0));
            Check.refused("suggest to " + place + ", all wrong", Check.NO_SUCH, RefusalTest::busy, d -> d.suggest(3, place, 26, 6));
        }
        Check.refused("suggest for nothing", Check.WRONG_ARGUMENT, RefusalTest::busy, d -> d.suggest(3, 3, 0, 1));
        Check.refused("suggest backwards", Check.WRONG_ARGUMENT, RefusalTest::busy, d -> d.suggest(3, 2, 0, 1));
        for (int letter : new int[] {-1, 26, Integer.MIN_VALUE, Integer.MAX_VALUE}) {
            Check.refused("suggest " + letter, Check.WRONG_ARGUMENT, RefusalTest::busy, d -> d.suggest(0, 1, letter, 1));
            Check.refused("suggest none of " + letter, Check.WRONG_ARGUMENT, RefusalTest::busy, d -> d.suggest(0, 1, letter, 0));
        }
        for (int count : new int[] {-1, 6, Integer.MIN_VALUE, Integer.MAX_VALUE}) {
            Check.refused("suggest so many: " + count, Check.WRONG_ARGUMENT, RefusalTest::busy, d -> d.suggest(0, 1, 0, count));
        }
        Supplier<MarginDesk> ten = RefusalTest::withTenSuggestions;
        Check.refused("an 11th suggestion", Check.WRONG_STATE, ten, d -> d.suggest(0, 1, 0, 0));
        Check.refused("an 11th suggestion, wrong count", Check.WRONG_ARGUMENT, ten, d -> d.suggest(0, 1, 0, 6));
        Check.refused("an 11th suggestion, wrong letter", Check.WRONG_ARGUMENT, ten, d -> d.suggest(0, 1, 26, 0));
        Check.refused("an 11th suggestion, wrong place", Check.NO_SUCH, ten, d -> d.suggest(0, 4, 26, 6));
    }

    private static void noSuchSuggestion(int suggestion, Supplier<MarginDesk> make) {
        Check.refused("accept(" + suggestion + ")", Check.NO_SUCH, make, d -> d.accept(suggestion));
        Check.refused("reject(" + suggestion + ")", Check.NO_SUCH, make, d -> d.reject(suggestion));
        Check.refused("stateOf(" + suggestion + ")", Check.NO_SUCH, make, d -> d.stateOf(suggestion));
        Check.refused("overlaps(" + suggestion + ")", Check.NO_SUCH, make, d -> d.overlaps(suggestion));
    }

    private static void suggestionNumbers() {
        for (int suggestion : NO_NUMBERS) {
            noSuchSuggestion(suggestion, RefusalTest::busy);
            noSuchSuggestion(suggestion, MarginDesk::new);
        }
        noSuchSuggestion(5, RefusalTest::busy);
        noSuchSuggestion(0, MarginDesk::new);
        noSuchSuggestion(10, RefusalTest::withTenSuggestions);
    }

    private static void accept() {
        Check.refused("accept an accepted one", Check.WRONG_STATE, RefusalTest::busy, d -> d.accept(0));
        Check.refused("accept one that overlaps", Check.WRONG_STATE, RefusalTest::busy, d -> d.accept(1));
        Check.refused("accept the other one of these", Check.WRONG_STATE, RefusalTest::busy, d -> d.accept(2));
        Check.refused("accept a rejected one", Check.WRONG_STATE, RefusalTest::busy, d -> d.accept(3));
        Check.refused("accept a gone one", Check.WRONG_STATE, RefusalTest::busy, d -> d.accept(4));
        Check.refused("accept into 61 letters", Check.WRONG_STATE, () -> {
            MarginDesk desk = full();
            desk.comment(0, 60, 3);
            desk.suggest(3, 7, 0, 5);
            return desk;
        }, d -> d.accept(0));
        Check.refused("accept with two edits at 299", Check.WRONG_STATE, () -> {
            MarginDesk desk = edited(299);
            desk.suggest(0, 1, 0, 1);
            return desk;
        }, d -> d.accept(0));
        Check.refused("accept with one edit at 300", Check.WRONG_STATE, () -> {
            MarginDesk desk = edited(300);
            desk.suggest(0, 1, 0, 0);
            return desk;
        }, d -> d.accept(0));
    }

    private static void reject() {
        Check.refused("reject an accepted one", Check.WRONG_STATE, RefusalTest::busy, d -> d.reject(0));
        Check.refused("reject a rejected one", Check.WRONG_STATE, RefusalTest::busy, d -> d.reject(3));
        Check.refused("reject a gone one", Check.WRONG_STATE, RefusalTest::busy, d -> d.reject(4));
        Check.due("reject one that overlaps", 1, busy().reject(1));
    }
}
