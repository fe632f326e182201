/** The desks that other tests begin with are as Start tells of them. */
final class StartTest {
    public static void main(String[] args) {
        for (Start start : Start.values()) {
            document(start);
            comments(start);
            suggestions(start);
        }
        Check.end("StartTest");
    }

    private static void document(Start start) {
        MarginDesk desk = start.get();
        Check.due(start + "'s document", start.document, Check.document(desk));
        Check.due(start + "'s length", start.length, desk.length());
        Check.due(start + "'s version", start.version, desk.version());
    }

    private static void comments(Start start) {
        MarginDesk desk = start.get();
        Check.due(start + "'s comments", start.comments, desk.comments());
        for (int comment = 0; comment < start.comments; comment++) {
            Check.due(start + "'s comment " + comment, start.range(comment), desk.rangeOf(comment));
        }
    }

    private static void suggestions(Start start) {
        MarginDesk desk = start.get();
        for (int suggestion = 0; suggestion < start.suggestions; suggestion++) {
            Check.due(start + "'s suggestion " + suggestion, start.state(suggestion), desk.stateOf(suggestion));
        }
        Check.refused(start + "'s last suggestion", Check.NO_SUCH, start, d -> d.stateOf(start.suggestions));
    }
}
