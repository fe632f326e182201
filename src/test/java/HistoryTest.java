/** Promise 13: where a comment was at a version. */
final class HistoryTest {
    public static void main(String[] args) {
        rangesAtVersions();
        madeAndFoundAtAVersion();
        acceptedIsTwoVersions();
        allVersions();
        Check.end("HistoryTest");
    }

    private static void rangesAtVersions() {
        MarginDesk desk = Check.deskWith("abcd");
        desk.comment(1, 3, 0);
        desk.insert(0, 0, 5);
        desk.remove(0, 2);
        desk.insert(5, 0, 1);
        int[] due = {-1, -1, -1, -1, 103, 608, 406, 407};
        for (int version = 0; version < due.length; version++) {
            Check.due("rangeThen(0, " + version + ")", due[version], desk.rangeThen(0, version));
        }
        Check.due("the version now", desk.rangeOf(0), desk.rangeThen(0, desk.version()));
    }

    private static void madeAndFoundAtAVersion() {
        MarginDesk desk = Check.deskWith("abc");
        Check.due("made", 0, desk.comment(1, 2, 0));
        Check.due("at once", 102, desk.rangeThen(0, 3));
        Check.due("the version ahead", -1, desk.rangeThen(0, 2));
        desk.remove(1, 1);
        Check.due("an orphan", -1, desk.rangeThen(0, 4));
        desk.insert(0, 1, 1);
        Check.due("still an orphan", -1, desk.rangeThen(0, 5));
        desk.find(0);
        Check.due("found at the same version", 1, desk.rangeThen(0, 5));
        Check.due("not at the one ahead", -1, desk.rangeThen(0, 4));
        desk.comment(0, 3, 0);
        desk.insert(0, 1, 1);
        Check.due("found, looked at later", 1, desk.rangeThen(0, 5));
        Check.due("made behind the finding, looked at later", 3, desk.rangeThen(1, 5));
        Check.due("not made yet", -1, desk.rangeThen(1, 4));
        Check.due("now", 104, desk.rangeThen(1, 6));
        desk.comment(0, 1, 0);
        Check.due("a comment on an empty object's version 0", -1, desk.rangeThen(2, 0));
    }

    private static void acceptedIsTwoVersions() {
        MarginDesk desk = Check.deskWith("abcd");
        desk.comment(1, 4, 1);
        desk.comment(1, 2, 3);
        desk.suggest(1, 2, 9, 3);
        desk.suggest(2, 3, 9, 0);
        desk.accept(0);
        Check.due("ahead of it", 104, desk.rangeThen(0, 4));
        Check.due("its letters taken away", 103, desk.rangeThen(0, 5));
        Check.due("its letters put there", 106, desk.rangeThen(0, 6));
        Check.due("the orphan ahead of it", 102, desk.rangeThen(1, 4));
        Check.due("the orphan between", -1, desk.rangeThen(1, 5));
        Check.due("the orphan then", -1, desk.rangeThen(1, 6));
        desk.accept(1);
        Check.due("one edit", 7, desk.version());
        Check.due("taken away alone", 105, desk.rangeThen(0, 7));
    }

    private static void allVersions() {
        MarginDesk desk = Check.deskWith("abcde");
        for (int comment = 0; comment < 12; comment++) {
            desk.comment(comment % 5, 5, 2);
        }
        for (int edit = 5; edit < 300; edit += 1) {
            if (edit % 2 == 1) {
                desk.insert(0, 1, 1);
            } else {
                desk.remove(0, 1);
            }
        }
        Check.due("version", 300, desk.version());
        Check.due("first comment, version 299", 5, desk.rangeThen(0, 299));
        Check.due("last comment, version 299", 105, desk.rangeThen(11, 299));
        Check.due("last comment, version 300", 206, desk.rangeThen(11, 300));
        Check.due("last comment, version 4", -1, desk.rangeThen(11, 4));
        Check.due("last comment, version 5", 105, desk.rangeThen(11, 5));
        Check.due("first comment, version 0", -1, desk.rangeThen(0, 0));
        Check.due("comment 4, version 6", 506, desk.rangeThen(4, 6));
    }
}
