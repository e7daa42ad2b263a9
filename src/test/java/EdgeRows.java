/** Stories that several promises have in common. */
final class EdgeRows {
    private static final String THIRTY = "make(1, 0)\n".repeat(30);

    private EdgeRows() {
    }

    /** On a disk without files, on one with two, and on one with as many files as there may be. */
    static void noSuchFile(Check check, String promise, String call, String rest) {
        String sentence = promise + ": throws if there is no such file: " + call + ".." + rest + ", ";
        Story.tell(check, sentence + "without files", refused(call, rest, "-1", "0", "MIN", "MAX"));
        Story.tell(check, sentence + "of one that is there", """
                make(2, 5) = 0
                make(3, 6) = 1
                """ + refused(call, rest, "-1", "2", "39", "MIN", "MAX"));
        Story.tell(check, sentence + "of one that is thrown away", """
                make(2, 5) = 0
                make(3, 6) = 1
                throwAway(1) = 38
                """ + refused(call, rest, "-1", "2", "30", "MIN", "MAX"));
        Story.tell(check, sentence + "with 30 files", THIRTY + """
                throwAway(29) = 11
                """ + refused(call, rest, "-1", "30", "MIN", "MAX"));
    }

    /** Files of 4 clusters that are there, made, grown and moved, beside one that is thrown away. */
    static void notThrownAway(Check check, String promise, String call, String rest) {
        Story.tell(check, promise + ": throws if it is not thrown away: " + call + ".." + rest, """
                make(3, 5) = 0
                make(4, 6) = 1
                make(4, 7) = 2
                throwAway(2) = 33
                ASK 2 REST
                ASK 1 REST throws IllegalStateException
                grow(0) = 7
                ASK 0 REST throws IllegalStateException
                move(0) = 8
                ASK 0 REST throws IllegalStateException
                throwAway(0) = 36
                ASK 0 REST
                ASK 1 REST throws IllegalStateException
                """.replace("ASK ", call).replace(" REST", rest));
    }

    private static String refused(String call, String rest, String... files) {
        StringBuilder rows = new StringBuilder();
        for (String file : files) {
            rows.append(call).append(file).append(rest).append(" throws IndexOutOfBoundsException\n");
        }
        return rows.toString();
    }
}
