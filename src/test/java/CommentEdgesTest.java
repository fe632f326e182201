/** Promises 7 to 15 at their edges: a test for each sentence that names one. The sentence stands ahead of it. */
final class CommentEdgesTest {
    public static void main(String[] args) {
        commentAtAllEdges();
        commentFrom();
        commentTo();
        commentLaterThanFrom();
        commentSticky();
        commentUpTo12();
        commentFirstException();
        commentTellsItsNumber();
        numbersAtAllEdges();
        answerTellsHowMany();
        answerOpens();
        resolveTellsWhetherItWasOpen();
        findAtAllEdges();
        findNoOrphan();
        findFirstException();
        findTellsThePlace();
        commentsAtItsEdges();
        rangeOfAtItsEdges();
        rangeThenAtAllEdges();
        rangeThenVersions();
        rangeThenAtTheVersionThatIsNow();
        rangeThenBehindAllThatWasDone();
        rangeThenNotMadeYet();
        rangeThenOfAnOrphan();
        openAtItsEdges();
        orphansAtItsEdges();
        wrapAround();
        Check.end("CommentEdgesTest");
    }

    // ---- comment

    private static void commentAtAllEdges() {
        for (Start start : Start.values()) {
            for (int from : Check.edges(0, start.length)) {
                for (int to : Check.edges(0, start.length)) {
                    for (int sticky : Check.edges(0, 3)) {
                        Check.meets(start + ".comment(" + from + ", " + to + ", " + sticky + ")", start,
                            d -> d.comment(from, to, sticky),
                            Check.outside(from, 0, start.length) || Check.outside(to, 0, start.length),
                            to <= from || Check.outside(sticky, 0, 3),
                            start.comments == 12,
                            () -> start.comments);
                    }
                }
            }
        }
    }

    // "Throws IndexOutOfBoundsException if there is no such place from .."
    private static void commentFrom() {
        Check.refused("from -1", Check.NO_SUCH, Start.BUSY, d -> d.comment(-1, 3, 0));
        Check.due("from 0", 3, Start.BUSY.get().comment(0, 3, 0));
        Check.due("from the last letter", 3, Start.BUSY.get().comment(5, 6, 0));
        Check.refused("from behind the end", Check.NO_SUCH, Start.BUSY, d -> d.comment(7, 6, 0));
        Check.refused("from int's least", Check.NO_SUCH, Start.BUSY, d -> d.comment(Integer.MIN_VALUE, 6, 0));
        Check.refused("from int's greatest", Check.NO_SUCH, Start.BUSY, d -> d.comment(Integer.MAX_VALUE, 6, 0));
        Check.refused("from 1 of the empty one", Check.NO_SUCH, Start.EMPTY, d -> d.comment(1, 0, 0));
        Check.refused("from 61 of 60 letters", Check.NO_SUCH, Start.FULL, d -> d.comment(61, 60, 0));
    }

    // "Throws IndexOutOfBoundsException if there is no such place .. to"
    private static void commentTo() {
        Check.refused("to -1", Check.NO_SUCH, Start.BUSY, d -> d.comment(0, -1, 0));
        Check.due("to 1", 3, Start.BUSY.get().comment(0, 1, 0));
        Check.due("to the end", 3, Start.BUSY.get().comment(0, 6, 0));
        Check.refused("to behind the end", Check.NO_SUCH, Start.BUSY, d -> d.comment(0, 7, 0));
        Check.refused("to int's least", Check.NO_SUCH, Start.BUSY, d -> d.comment(0, Integer.MIN_VALUE, 0));
        Check.refused("to int's greatest", Check.NO_SUCH, Start.BUSY, d -> d.comment(0, Integer.MAX_VALUE, 0));
        Check.refused("to 1 of the empty one", Check.NO_SUCH, Start.EMPTY, d -> d.comment(0, 1, 0));
        Check.refused("to 61 of 60 letters", Check.NO_SUCH, Start.FULL, d -> d.comment(0, 61, 0));
        Check.due("to 60 of 60 letters", 3, Start.FULL.get().comment(0, 60, 0));
    }

    // "Throws IllegalArgumentException if to is not later than from"
    private static void commentLaterThanFrom() {
        Check.due("one later", 3, Start.BUSY.get().comment(3, 4, 0));
        Check.refused("the same", Check.WRONG_ARGUMENT, Start.BUSY, d -> d.comment(3, 3, 0));
        Check.refused("one earlier", Check.WRONG_ARGUMENT, Start.BUSY, d -> d.comment(3, 2, 0));
        Check.refused("both at the beginning", Check.WRONG_ARGUMENT, Start.BUSY, d -> d.comment(0, 0, 0));
        Check.refused("both at the end", Check.WRONG_ARGUMENT, Start.BUSY, d -> d.comment(6, 6, 0));
        Check.refused("from the end to the beginning", Check.WRONG_ARGUMENT, Start.BUSY, d -> d.comment(6, 0, 0));
        Check.refused("in the empty one", Check.WRONG_ARGUMENT, Start.EMPTY, d -> d.comment(0, 0, 0));
        Check.refused("at the end of 60", Check.WRONG_ARGUMENT, Start.FULL, d -> d.comment(60, 60, 3));
    }

    // "sticky: 0 .. 3"; "Throws IllegalArgumentException if .. sticky is out of range"
    private static void commentSticky() {
        Check.due("sticky 0", 3, Start.BUSY.get().comment(1, 3, 0));
        Check.due("sticky 3", 3, Start.BUSY.get().comment(1, 3, 3));
        Check.refused("sticky -1", Check.WRONG_ARGUMENT, Start.BUSY, d -> d.comment(1, 3, -1));
        Check.refused("sticky 4", Check.WRONG_ARGUMENT, Start.BUSY, d -> d.comment(1, 3, 4));
        Check.refused("int's least", Check.WRONG_ARGUMENT, Start.BUSY, d -> d.comment(1, 3, Integer.MIN_VALUE));
        Check.refused("int's greatest", Check.WRONG_ARGUMENT, Start.BUSY, d -> d.comment(1, 3, Integer.MAX_VALUE));
    }

    // "Throws IllegalStateException if there are 12 comments"
    private static void commentUpTo12() {
        MarginDesk desk = Start.ONE_OF_EACH_LEFT.get();
        Check.due("the 12th", 11, desk.comment(0, 59, 3));
        Check.refused("the 13th", Check.WRONG_STATE, Start.TWELVE_COMMENTS, d -> d.comment(0, 1, 0));
        Check.refused("the 13th on 60 letters", Check.WRONG_STATE, Start.NONE_LEFT, d -> d.comment(0, 60, 3));
        Check.refused("the 13th when all are orphans", Check.WRONG_STATE, () -> {
            MarginDesk orphaned = Start.TWELVE_COMMENTS.get();
            orphaned.remove(0, 6);
            orphaned.insert(0, 1, 2);
            return orphaned;
        }, d -> d.comment(0, 1, 0));
    }

    // "If several exceptions of a throws clause apply, the one that is listed first is thrown."
    private static void commentFirstException() {
        Check.refused("from, not later", Check.NO_SUCH, Start.BUSY, d -> d.comment(7, 2, 0));
        Check.refused("to, not later", Check.NO_SUCH, Start.BUSY, d -> d.comment(2, -1, 0));
        Check.refused("from, sticky", Check.NO_SUCH, Start.BUSY, d -> d.comment(-1, 2, 4));
        Check.refused("to, sticky", Check.NO_SUCH, Start.BUSY, d -> d.comment(2, 7, -1));
        Check.refused("from and to the same, no place", Check.NO_SUCH, Start.BUSY, d -> d.comment(7, 7, 0));
        Check.refused("from, 12 comments", Check.NO_SUCH, Start.TWELVE_COMMENTS, d -> d.comment(-1, 2, 0));
        Check.refused("to, 12 comments", Check.NO_SUCH, Start.TWELVE_COMMENTS, d -> d.comment(2, 7, 0));
        Check.refused("not later, 12", Check.WRONG_ARGUMENT, Start.TWELVE_COMMENTS, d -> d.comment(2, 2, 0));
        Check.refused("sticky, 12", Check.WRONG_ARGUMENT, Start.TWELVE_COMMENTS, d -> d.comment(2, 3, 4));
        Check.refused("all of them", Check.NO_SUCH, Start.TWELVE_COMMENTS, d -> d.comment(7, -1, 4));
    }

    // "Comments are numbered from 0"; "Returns its number."
    private static void commentTellsItsNumber() {
        MarginDesk desk = Check.deskWith("ab");
        for (int number = 0; number < 12; number++) {
            Check.due("the number", number, desk.comment(0, 2, 0));
        }
        MarginDesk orphaned = Check.deskWith("ab");
        orphaned.comment(0, 1, 0);
        orphaned.remove(0, 1);
        Check.due("no number is used again", 1, orphaned.comment(0, 1, 0));
    }

    // ---- the numbers of comments

    // "Throws IndexOutOfBoundsException if there is no such comment"
    private static void numbersAtAllEdges() {
        for (Start start : Start.values()) {
            for (int comment : Check.edges(0, start.comments - 1)) {
                boolean noSuch = Check.outside(comment, 0, start.comments - 1);
                String of = "(" + comment + ")";
                Check.meets(start + ".answer" + of, start, d -> d.answer(comment), noSuch, false, false,
                    () -> answersBefore(start, comment) + 1);
                Check.meets(start + ".resolve" + of, start, d -> d.resolve(comment) ? 1 : 0, noSuch, false, false,
                    () -> start.get().open() >> comment & 1);
                Check.meets(start + ".rangeOf" + of, start, d -> d.rangeOf(comment), noSuch, false, false,
                    () -> start.range(comment));
            }
        }
        Check.refused("answer(12)", Check.NO_SUCH, Start.NONE_LEFT, d -> d.answer(12));
        Check.refused("resolve(12)", Check.NO_SUCH, Start.NONE_LEFT, d -> d.resolve(12) ? 1 : 0);
        Check.refused("rangeOf(12)", Check.NO_SUCH, Start.NONE_LEFT, d -> d.rangeOf(12));
        Check.refused("find(12)", Check.NO_SUCH, Start.NONE_LEFT, d -> d.find(12));
        Check.refused("rangeThen(12, 0)", Check.NO_SUCH, Start.NONE_LEFT, d -> d.rangeThen(12, 0));
    }

    private static int answersBefore(Start start, int comment) {
        boolean answered = start == Start.BUSY && comment == 0 || start == Start.TWELVE_COMMENTS && comment == 3;
        return answered ? 1 : 0;
    }

    // "Returns how many answers it has then."
    private static void answerTellsHowMany() {
        MarginDesk desk = Check.deskWith("ab");
        desk.comment(0, 1, 0);
        desk.comment(1, 2, 0);
        for (int answer = 1; answer <= 508; answer++) {
            Check.due("the answers of the first", answer, desk.answer(0));
        }
        MarginDesk other = Check.deskWith("ab");
        other.comment(0, 1, 0);
        other.comment(1, 2, 0);
        other.answer(0);
        Check.due("the first answer of another one", 1, other.answer(1));
        MarginDesk twelve = Start.NONE_LEFT.get();
        Check.due("the first answer of the 12th", 1, twelve.answer(11));
        Check.due("the second one", 2, twelve.answer(11));
        Check.due("the first answer of an orphan", 1, twelve.answer(0));
    }

    // "Answers a comment; it is open then."
    private static void answerOpens() {
        MarginDesk desk = Start.NONE_LEFT.get();
        desk.resolve(0);
        desk.resolve(11);
        Check.due("the first and the last are resolved", 0x7FE, desk.open());
        desk.answer(11);
        Check.due("the last is open", 0xFFE, desk.open());
        desk.answer(0);
        Check.due("the first, an orphan, is open", 0xFFF, desk.open());
        desk.answer(5);
        Check.due("an open one stays open", 0xFFF, desk.open());
    }

    // "Returns whether it was open."
    private static void resolveTellsWhetherItWasOpen() {
        MarginDesk desk = Start.NONE_LEFT.get();
        Check.due("open at first", true, desk.resolve(11));
        Check.due("no more", false, desk.resolve(11));
        Check.due("and not the third time", false, desk.resolve(11));
        desk.answer(11);
        Check.due("opened again", true, desk.resolve(11));
        Check.due("an orphan that is open", true, desk.resolve(0));
        Check.due("an orphan that is not", false, desk.resolve(0));
        Check.due("the others are open", 0x7FE, desk.open());
    }

    // ---- find

    private static void findAtAllEdges() {
        for (Start start : Start.values()) {
            for (int comment : Check.edges(0, start.comments - 1)) {
                boolean noSuch = Check.outside(comment, 0, start.comments - 1);
                // Of the orphans that are the first or the last of a start one has its letters in the document.
                Check.meets(start + ".find(" + comment + ")", start, d -> d.find(comment), noSuch, false,
                    !noSuch && start.range(comment) != MarginDesk.NONE,
                    () -> start == Start.NONE_LEFT ? 5 : MarginDesk.NONE);
            }
        }
    }

    // "Throws IllegalStateException if it is no orphan"
    private static void findNoOrphan() {
        Check.refused("one with a range", Check.WRONG_STATE, Start.BUSY, d -> d.find(0));
        Check.refused("a resolved one with a range", Check.WRONG_STATE, Start.BUSY, d -> d.find(1));
        Check.due("an orphan", MarginDesk.NONE, Start.BUSY.get().find(2));
        Check.due("an orphan of which no place fits stays one", MarginDesk.NONE, Check.desk(d -> {
            Check.write(d, 0, "ab");
            d.comment(0, 1, 0);
            d.remove(0, 1);
            d.find(0);
        }).find(0));
        Check.refused("one that is found again", Check.WRONG_STATE, () -> {
            MarginDesk desk = Start.BUSY.get();
            desk.insert(0, 7, 1);
            desk.find(2);
            return desk;
        }, d -> d.find(2));
        Check.refused("one of which a letter is left", Check.WRONG_STATE, () -> {
            MarginDesk desk = Check.deskWith("abc");
            desk.comment(0, 3, 0);
            desk.remove(0, 2);
            return desk;
        }, d -> d.find(0));
    }

    // "If several exceptions of a throws clause apply": none that is no comment is an orphan.
    private static void findFirstException() {
        Check.refused("find(0), no comment", Check.NO_SUCH, Start.EMPTY, d -> d.find(0));
        Check.refused("find(1) of one comment", Check.NO_SUCH, Start.TEN_SUGGESTIONS, d -> d.find(1));
        Check.refused("find(-1)", Check.NO_SUCH, Start.BUSY, d -> d.find(-1));
        Check.refused("find(3) of three comments", Check.NO_SUCH, Start.BUSY, d -> d.find(3));
    }

    // "Returns the place at which its range begins then; NONE if no place fits."
    private static void findTellsThePlace() {
        MarginDesk first = Check.deskWith("ab");
        first.comment(0, 1, 0);
        first.remove(0, 1);
        Check.due("no place", -1, first.find(0));
        Check.due("its range", -1, first.rangeOf(0));
        first.insert(0, 0, 1);
        Check.due("the least place", 0, first.find(0));
        Check.due("its range", 1, first.rangeOf(0));
        MarginDesk last = Start.FULL.get();
        last.comment(59, 60, 0);
        last.remove(50, 10);
        last.insert(0, 25, 9);
        last.insert(59, 0, 1);
        Check.due("the greatest place", 59, last.find(3));
        Check.due("its range", 5960, last.rangeOf(3));
    }

    // ---- comments, rangeOf

    // "Returns how many comments there are."
    private static void commentsAtItsEdges() {
        Check.due("none", 0, Start.EMPTY.get().comments());
        Check.due("12", 12, Start.NONE_LEFT.get().comments());
        MarginDesk desk = Check.deskWith("ab");
        desk.comment(0, 1, 0);
        Check.due("one", 1, desk.comments());
        desk.resolve(0);
        desk.remove(0, 1);
        Check.due("a resolved orphan counts", 1, desk.comments());
    }

    // "Returns 100 times the place at which its range begins, and that at which it ends, added; NONE for an orphan."
    private static void rangeOfAtItsEdges() {
        MarginDesk desk = Start.FULL.get();
        desk.comment(0, 1, 0);
        desk.comment(59, 60, 0);
        Check.due("the least", 1, desk.rangeOf(3));
        Check.due("the greatest", 5960, desk.rangeOf(4));
        Check.due("all 60 letters", 60, desk.rangeOf(0));
        desk.remove(0, 1);
        Check.due("an orphan", -1, desk.rangeOf(3));
        Check.due("the last letter then", 5859, desk.rangeOf(4));
    }

    // ---- rangeThen

    private static void rangeThenAtAllEdges() {
        for (Start start : Start.values()) {
            for (int comment : Check.edges(0, start.comments - 1)) {
                for (int version : Check.edges(0, start.version)) {
                    Check.meets(start + ".rangeThen(" + comment + ", " + version + ")", start,
                        d -> d.rangeThen(comment, version),
                        Check.outside(comment, 0, start.comments - 1) || Check.outside(version, 0, start.version),
                        false, false,
                        () -> version == start.version ? start.range(comment) : MarginDesk.NONE);
                }
            }
        }
    }

    // "version: 0 to version()"; "Throws IndexOutOfBoundsException if there is no such comment or version"
    private static void rangeThenVersions() {
        Check.refused("version -1", Check.NO_SUCH, Start.BUSY, d -> d.rangeThen(0, -1));
        Check.due("version 0", -1, Start.BUSY.get().rangeThen(0, 0));
        Check.due("version 12", 3, Start.BUSY.get().rangeThen(0, 12));
        Check.refused("version 13", Check.NO_SUCH, Start.BUSY, d -> d.rangeThen(0, 13));
        Check.refused("int's least", Check.NO_SUCH, Start.BUSY, d -> d.rangeThen(0, Integer.MIN_VALUE));
        Check.refused("int's greatest", Check.NO_SUCH, Start.BUSY, d -> d.rangeThen(0, Integer.MAX_VALUE));
        Check.due("version 299 of 300", 204, Start.NO_EDIT_LEFT.get().rangeThen(0, 299));
        Check.due("version 300", 103, Start.NO_EDIT_LEFT.get().rangeThen(0, 300));
        Check.refused("version 301", Check.NO_SUCH, Start.NO_EDIT_LEFT, d -> d.rangeThen(0, 301));
        Check.refused("version 300 of 299", Check.NO_SUCH, Start.ONE_EDIT_LEFT, d -> d.rangeThen(0, 300));
        Check.refused("no comment, a version", Check.NO_SUCH, Start.EMPTY, d -> d.rangeThen(0, 0));
        Check.refused("a comment, no version", Check.NO_SUCH, Start.BUSY, d -> d.rangeThen(2, 13));
        Check.refused("no comment, no version", Check.NO_SUCH, Start.BUSY, d -> d.rangeThen(3, 13));
    }

    private static void rangeThenAtTheVersionThatIsNow() {
        MarginDesk desk = Check.deskWith("abc");
        desk.comment(1, 3, 0);
        Check.due("made now", 103, desk.rangeThen(0, 3));
        desk.remove(0, 1);
        Check.due("moved now", 2, desk.rangeThen(0, 4));
        Check.due("the version ahead", 103, desk.rangeThen(0, 3));
    }

    // "Returns where a comment was at a version, behind all that was done until the next edit."
    private static void rangeThenBehindAllThatWasDone() {
        MarginDesk desk = Check.deskWith("abc");
        desk.comment(0, 1, 0);
        desk.remove(0, 1);
        desk.insert(2, 0, 1);
        desk.find(0);
        desk.comment(0, 1, 0);
        desk.insert(0, 5, 1);
        Check.due("found behind the edit", 203, desk.rangeThen(0, 5));
        Check.due("made behind the edit", 1, desk.rangeThen(1, 5));
        Check.due("an orphan ahead of the edit", -1, desk.rangeThen(0, 4));
        Check.due("at the next edit", 304, desk.rangeThen(0, 6));
        Check.due("at the next edit", 102, desk.rangeThen(1, 6));
        desk.remove(0, 4);
        Check.due("later edits do not change it", 203, desk.rangeThen(0, 5));
    }

    // "NONE .. if it was not made yet"
    private static void rangeThenNotMadeYet() {
        MarginDesk desk = Check.deskWith("abc");
        desk.comment(0, 3, 0);
        desk.insert(3, 0, 1);
        desk.comment(0, 3, 0);
        Check.due("the first at the version it was made at", 3, desk.rangeThen(0, 3));
        Check.due("the first at the one ahead", -1, desk.rangeThen(0, 2));
        Check.due("the first at 0", -1, desk.rangeThen(0, 0));
        Check.due("the second at the version it was made at", 3, desk.rangeThen(1, 4));
        Check.due("the second at the one ahead", -1, desk.rangeThen(1, 3));
        MarginDesk last = Start.NO_EDIT_LEFT.get();
        Check.due("made at 300", 2, last.comment(0, 4, 0));
        Check.due("at 300", 4, last.rangeThen(2, 300));
        Check.due("at 299", -1, last.rangeThen(2, 299));
    }

    // "NONE for an orphan"
    private static void rangeThenOfAnOrphan() {
        MarginDesk desk = Check.deskWith("ab");
        desk.comment(0, 1, 0);
        desk.remove(0, 1);
        Check.due("an orphan now", -1, desk.rangeThen(0, 3));
        Check.due("not yet then", 1, desk.rangeThen(0, 2));
        desk.insert(0, 0, 1);
        desk.find(0);
        desk.insert(0, 9, 1);
        Check.due("an orphan then, found since", -1, desk.rangeThen(0, 3));
        Check.due("found", 1, desk.rangeThen(0, 4));
        Check.due("now", 102, desk.rangeThen(0, 5));
    }

    /** Numbers far outside are not taken for those that are left of them in fewer bits. */
    private static void wrapAround() {
        for (int number : Check.WRAPPING) {
            String of = "(" + number + ")";
            Check.refused("comment from " + number, Check.NO_SUCH, Start.BUSY, d -> d.comment(number, 6, 0));
            Check.refused("comment to " + number, Check.NO_SUCH, Start.BUSY, d -> d.comment(0, number, 0));
            Check.refused("comment sticky " + number, Check.WRONG_ARGUMENT, Start.BUSY, d -> d.comment(0, 1, number));
            Check.refused("answer" + of, Check.NO_SUCH, Start.NONE_LEFT, d -> d.answer(number));
            Check.refused("resolve" + of, Check.NO_SUCH, Start.NONE_LEFT, d -> d.resolve(number) ? 1 : 0);
            Check.refused("find" + of, Check.NO_SUCH, Start.EMPTY_AGAIN, d -> d.find(number));
            Check.refused("rangeOf" + of, Check.NO_SUCH, Start.NONE_LEFT, d -> d.rangeOf(number));
            Check.refused("rangeThen of " + number, Check.NO_SUCH, Start.NONE_LEFT, d -> d.rangeThen(number, 300));
            Check.refused("rangeThen at " + number, Check.NO_SUCH, Start.BUSY, d -> d.rangeThen(0, number));
        }
    }

    // ---- open, orphans

    // "Returns the comments that are open: a set, bit c for the comment c."
    private static void openAtItsEdges() {
        Check.due("no comments", 0, Start.EMPTY.get().open());
        MarginDesk desk = Start.NONE_LEFT.get();
        Check.due("all 12", 0xFFF, desk.open());
        for (int comment = 0; comment < 12; comment++) {
            desk.resolve(comment);
            Check.due("those behind " + comment, 0xFFF & -2 << comment, desk.open());
        }
        desk.answer(11);
        Check.due("the last alone", 0x800, desk.open());
    }

    // "Returns the comments that are orphans: a set."
    private static void orphansAtItsEdges() {
        Check.due("no comments", 0, Start.EMPTY.get().orphans());
        Check.due("none of three", 0, Start.FULL.get().orphans());
        MarginDesk desk = Start.TWELVE_COMMENTS.get();
        Check.due("two of twelve", 0x104, desk.orphans());
        desk.remove(0, 6);
        Check.due("all 12", 0xFFF, desk.orphans());
        desk.insert(0, 6, 1);
        Check.due("an insertion finds none", 0xFFF, desk.orphans());
    }
}
