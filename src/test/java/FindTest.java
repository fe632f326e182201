/** Promise 10: an orphan is found again; and what it keeps. */
final class FindTest {
    public static void main(String[] args) {
        foundWhereItsLettersStand();
        noPlaceFits();
        greatestFitIsTaken();
        endsOfTheDocumentFit();
        lowestOfSeveral();
        keepsWhatItHadWhenMade();
        stickinessStays();
        foundStaysResolvedOrOpen();
        Check.end("FindTest");
    }

    /** A desk with a comment on some letters, whose document then is another one. */
    private static MarginDesk orphanIn(String before, int from, int to, String then) {
        MarginDesk desk = Check.deskWith(before);
        desk.comment(from, to, 0);
        desk.remove(0, before.length());
        Check.write(desk, 0, then);
        return desk;
    }

    private static void foundWhereItsLettersStand() {
        MarginDesk desk = orphanIn("xabcy", 1, 4, "qqabcqabq");
        Check.due("found", 2, desk.find(0));
        Check.due("rangeOf", 205, desk.rangeOf(0));
        Check.due("orphans", 0, desk.orphans());
        Check.due("cover", 1, desk.cover(2));
        Check.due("coverByLetters of the first", 1, desk.coverByLetters(2));
        Check.due("coverByLetters of the last", 1, desk.coverByLetters(4));
        Check.due("coverByLetters ahead", 0, desk.coverByLetters(1));
        Check.due("coverByLetters behind", 0, desk.coverByLetters(5));
        Check.due("found in the whole document", 0, orphanIn("abc", 0, 3, "abc").find(0));
        Check.due("found at the end", 3, orphanIn("ab", 0, 2, "xbxab").find(0));
        Check.due("overlapping itself", 1, orphanIn("baab", 1, 3, "baaa").find(0));
    }

    private static void noPlaceFits() {
        MarginDesk desk = orphanIn("xabcy", 1, 4, "xaby");
        Check.due("not found", MarginDesk.NONE, desk.find(0));
        Check.due("it stays an orphan", 1, desk.orphans());
        Check.due("rangeOf", MarginDesk.NONE, desk.rangeOf(0));
        Check.due("cover", 0, desk.cover(1));
        Check.due("in an empty document", MarginDesk.NONE, orphanIn("a", 0, 1, "").find(0));
        Check.due("in a shorter one", MarginDesk.NONE, orphanIn("aa", 0, 2, "a").find(0));
        Check.due("cut off at the end", MarginDesk.NONE, orphanIn("abc", 0, 3, "xxab").find(0));
        desk.insert(3, 2, 1);
        Check.due("found when its letters are back", 1, desk.find(0));
    }

    private static void greatestFitIsTaken() {
        Check.due("both beat one and none", 7, orphanIn("xay", 1, 2, "aqxaqayxayqa").find(0) - 1);
        Check.due("the one behind beats none", 3, orphanIn("xay", 1, 2, "qaqay").find(0));
        Check.due("the one ahead beats none", 4, orphanIn("xay", 1, 2, "qaqxaq").find(0));
        Check.due("ahead and behind count the same", 2, orphanIn("xay", 1, 2, "qqayqxaq").find(0));
        Check.due("behind and ahead count the same", 2, orphanIn("xay", 1, 2, "qxaqqay").find(0));
    }

    private static void endsOfTheDocumentFit() {
        Check.due("nothing was ahead", 0, orphanIn("ay", 0, 1, "aqxaq").find(0));
        Check.due("nothing was behind", 4, orphanIn("xa", 1, 2, "qaqqa").find(0));
        Check.due("nothing ahead there, something kept", 2, orphanIn("xaq", 1, 2, "axa").find(0));
        Check.due("nothing behind there, something kept", 1, orphanIn("qay", 1, 2, "yaya").find(0));
        Check.due("the whole document was the range", 0, orphanIn("ab", 0, 2, "abxab").find(0));
        Check.due("the letter 0 is not NONE", 0, orphanIn("b", 0, 1, "bab").find(0));
        Check.due("the letter 0 behind is not NONE", 2, orphanIn("xb", 1, 2, "bxb").find(0));
    }

    private static void lowestOfSeveral() {
        Check.due("of several with fit 0", 1, orphanIn("xay", 1, 2, "qaqaqaq").find(0));
        Check.due("of several with fit 1", 3, orphanIn("xay", 1, 2, "qaxaqayq").find(0));
        Check.due("of several with fit 2", 4, orphanIn("xay", 1, 2, "qayxayxay").find(0));
    }

    private static void keepsWhatItHadWhenMade() {
        MarginDesk desk = Check.deskWith("xaby");
        desk.comment(1, 3, 3);
        desk.insert(2, 25, 1);
        desk.remove(0, 1);
        desk.insert(0, 4, 1);
        desk.remove(0, 5);
        Check.write(desk, 0, "eazbyqxabyab");
        Check.due("later edits do not change what it keeps", 7, desk.find(0));
        desk.insert(8, 3, 1);
        desk.remove(7, 3);
        Check.due("orphan again", 1, desk.orphans());
        Check.write(desk, 7, "ab");
        Check.due("finding does not change what it keeps", 7, desk.find(0));
        desk.remove(6, 4);
        Check.due("orphan once more", 1, desk.orphans());
        desk.remove(0, desk.length());
        Check.write(desk, 0, "qabqxabq");
        Check.due("what stood around it when it was made", 5, desk.find(0));
    }

    private static void stickinessStays() {
        for (int sticky = 0; sticky <= 3; sticky++) {
            MarginDesk desk = Check.deskWith("xay");
            desk.comment(1, 2, sticky);
            desk.remove(1, 1);
            desk.insert(1, 0, 1);
            Check.due("found", 1, desk.find(0));
            desk.insert(2, 25, 1);
            desk.insert(1, 25, 1);
            int begin = (sticky & 1) != 0 ? 1 : 2;
            int end = (sticky & 2) != 0 ? 4 : 3;
            Check.due("sticky " + sticky, 100 * begin + end, desk.rangeOf(0));
            Check.due("coverByLetters at its beginning", sticky & 1, desk.coverByLetters(1));
            Check.due("coverByLetters at its end", sticky >> 1, desk.coverByLetters(3));
        }
    }

    private static void foundStaysResolvedOrOpen() {
        MarginDesk desk = Check.deskWith("ab");
        desk.comment(0, 1, 0);
        desk.comment(1, 2, 0);
        desk.resolve(0);
        desk.answer(1);
        desk.remove(0, 2);
        Check.write(desk, 0, "ab");
        desk.find(1);
        Check.due("orphans", 1, desk.orphans());
        desk.find(0);
        Check.due("orphans", 0, desk.orphans());
        Check.due("open", 2, desk.open());
        Check.due("answers", 2, desk.answer(1));
    }
}
