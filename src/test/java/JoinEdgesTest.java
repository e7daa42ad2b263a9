/** The edges that 'Joins' and the promises 19 and 20 name: a story for each sentence. */
public final class JoinEdgesTest {
    private static final String FULL = "make(8, 0)\n".repeat(5);

    /** The joins of file 2 are (8, 7, 17, 15), (8, 9, 10, 11) and (8, 19, 15, 3). */
    private static final String THREE_JOINS = """
            make(4, 25) = 0
            make(4, 15) = 1
            make(4, 141) = 2
            make(4, 83) = 3
            make(4, 46) = 4
            throwAway(0) = 24
            throwAway(1) = 28
            throwAway(2) = 32
            throwAway(3) = 36
            throwAway(4) = 40
            """;

    /** The joins of file 2 are (8, 2, 7, 16), (8, 9, 5, 11) and (8, 9, 10, 11). */
    private static final String TWO_BEGIN_ALIKE = """
            make(4, 157) = 0
            make(4, 80) = 1
            make(4, 182) = 2
            make(2, 20) = 3
            make(3, 156) = 4
            throwAway(0) = 27
            throwAway(1) = 31
            throwAway(2) = 35
            throwAway(3) = 37
            throwAway(4) = 40
            """;

    private final Check check = new Check();

    public static void main(String[] args) {
        JoinEdgesTest test = new JoinEdgesTest();
        test.lengths();
        test.freeAndDifferent();
        test.firstClusters();
        test.checksumsAndEnds();
        test.severalJoins();
        test.promise19();
        test.promise20();
        test.promise20Refusals();
        test.check.end();
    }

    private void lengths() {
        story("that had 1 to 4 clusters: 1", """
                make(1, 5) = 0
                throwAway(0) = 40
                join(0) = 0
                """);
        story("that had 1 to 4 clusters: 4", """
                make(4, 5) = 0
                throwAway(0) = 40
                join(0) = 0 1 2 3
                """);
        story("that had 1 to 4 clusters: not 5", """
                make(5, 5) = 0
                throwAway(0) = 40
                confidence(0) = 3
                join(0) = none
                joinAt(0, 0) throws IllegalStateException
                """);
        story("that had 1 to 4 clusters: not 8", """
                make(8, 5) = 0
                throwAway(0) = 40
                confidence(0) = 3
                join(0) = none
                joinAt(0, 7) throws IllegalStateException
                """);
        story("that had 1 to 4 clusters, when it was thrown away", """
                make(4, 5) = 0
                make(3, 6) = 1
                grow(0) = 7
                grow(1) = 8
                throwAway(0) = 36
                throwAway(1) = 40
                clusters(0) = 5
                join(0) = none
                join(1) = 4 5 6 8
                """);
        story("a row of as many clusters: 2 and 3", """
                make(2, 5) = 0
                make(3, 6) = 1
                throwAway(0) = 37
                throwAway(1) = 40
                join(0) = 0 1
                join(1) = 2 3 4
                """);
        story("a row of clusters up to the last of the disk", FULL + """
                throwAway(4) = 8
                make(4, 1) = 5
                make(4, 2) = 6
                throwAway(6) = 4
                join(6) = 36 37 38 39
                """);
        story("a row of clusters, of one that is the last of the disk", """
                make(8, 0)
                make(8, 0)
                make(8, 0)
                make(8, 0)
                make(7, 0)
                make(1, 1) = 5
                throwAway(5) = 1
                join(5) = 39
                """);
        story("a row of clusters that begins at the last of the disk", """
                make(8, 0)
                make(8, 0)
                make(8, 0)
                make(8, 0)
                make(7, 0)
                make(1, 1) = 5
                throwAway(0) = 8
                grow(5) = 0
                grow(5) = 1
                throwAway(5) = 9
                claim(5) = 39
                join(5) = 39 0 1
                """);
    }

    private void freeAndDifferent() {
        story("all free now: not one that another file holds, though with the same numbers", """
                make(1, 0) = 0
                make(1, 0) = 1
                make(1, 5) = 2
                throwAway(1) = 38
                grow(2) = 1
                throwAway(2) = 39
                join(2) = 2 1
                throwAway(0) = 40
                make(1, 5) = 3
                grow(3) = 1
                numbers(1) = 153 190 227 254
                join(2) = none
                joinAt(2, 0) throws IllegalStateException
                throwAway(3) = 40
                join(2) = 2 1
                """);
        story("all free now: the clusters between them need not be", """
                make(1, 1) = 0
                make(1, 2) = 1
                make(1, 3) = 2
                grow(0) = 3
                throwAway(0) = 38
                join(0) = 0 3
                throwAway(2) = 39
                join(2) = 2
                """);
        story("all free now: the last of the row is taken and left with other numbers", """
                make(2, 5) = 0
                throwAway(0) = 40
                make(1, 5) = 1
                make(1, 5) = 2
                throwAway(1) = 39
                join(0) = none
                throwAway(2) = 40
                join(0) = none
                """);
        story("and different: (1, 0, 0) would have the checksum and the end", """
                make(1, 231) = 0
                make(3, 15) = 1
                throwAway(0) = 37
                throwAway(1) = 40
                checksum(1) = 1085
                join(1) = 1 2 3
                """);
        story("and different: the first one does not come twice", """
                make(1, 5) = 0
                throwAway(0) = 40
                make(2, 5) = 1
                throwAway(1) = 40
                join(1) = 0 1
                make(1, 6) = 2
                make(1, 7) = 3
                throwAway(2) = 39
                throwAway(3) = 40
                join(1) = none
                """);
    }

    private void firstClusters() {
        story("the first one being its first cluster, though a lower one holds the same", """
                make(3, 5) = 0
                move(0) = 3
                throwAway(0) = 40
                join(0) = 3 1 2
                """);
        story("the first one being its first cluster: none if it is not free", """
                make(3, 5) = 0
                move(0) = 3
                throwAway(0) = 40
                make(3, 6) = 1
                join(0) = 3 4 5
                make(1, 7) = 2
                join(0) = none
                throwAway(1) = 39
                join(0) = none
                """);
        story("the first one being its first cluster: none if it is not free, though of one", """
                make(1, 5) = 0
                throwAway(0) = 40
                make(1, 5) = 1
                join(0) = none
                throwAway(1) = 40
                join(0) = 0
                """);
        story("the first one being its first cluster: not a copy of it", """
                make(1, 5) = 0
                move(0) = 1
                move(0) = 0
                throwAway(0) = 40
                numbers(1) = 255 42 79 254
                join(0) = 0
                make(1, 6) = 1
                throwAway(1) = 40
                join(0) = none
                """);
    }

    private void checksumsAndEnds() {
        story("have the checksum of the entry: not that of other numbers with the end", """
                make(1, 5) = 0
                throwAway(0) = 40
                make(1, 6) = 1
                throwAway(1) = 40
                confidence(0) = 2
                join(0) = none
                join(1) = 0
                """);
        story("have the checksum of the entry: though not its numbers", """
                make(1, 3) = 0
                make(1, 147) = 1
                throwAway(0) = 39
                grow(1) = 0
                throwAway(1) = 40
                numbers(0) = 45 82 119 254
                join(0) = 0
                """);
        story("have the checksum of the entry, not of what the first cluster held later", """
                make(2, 5) = 0
                make(1, 6) = 1
                throwAway(0) = 39
                make(1, 7) = 2
                throwAway(2) = 39
                join(0) = none
                """);
        story("and end with 254: one cluster with the checksum does not", """
                make(1, 213) = 0
                throwAway(0) = 40
                make(2, 43) = 1
                throwAway(1) = 40
                numbers(0) = 255 80 117 154
                confidence(0) = 3
                join(0) = none
                joinAt(0, 0) throws IllegalStateException
                """);
        story("and end with 254: (24, 12, 19) has the checksum and does not", """
                make(8, 1) = 0
                make(8, 0) = 1
                make(8, 9) = 2
                make(3, 4) = 3
                throwAway(0) = 21
                throwAway(1) = 29
                throwAway(2) = 37
                throwAway(3) = 40
                join(3) = 24 25 26
                """);
    }

    private void severalJoins() {
        story("of several the one that comes first, compared by the second cluster", THREE_JOINS + """
                claim(2) = 8 9 10 11
                confidence(2) = 3
                join(2) = 8 7 17 15
                """);
        story("of several the one that comes first, of those that are left", THREE_JOINS + """
                make(8, 1) = 5
                join(2) = 8 9 10 11
                """);
        story("of several the one that comes first, compared by the third cluster", TWO_BEGIN_ALIKE + """
                join(2) = 8 2 7 16
                make(3, 1) = 5
                join(2) = 8 9 5 11
                make(3, 1) = 6
                join(2) = 8 9 10 11
                """);
        story("of several the one that comes first, compared by the last cluster", """
                make(2, 5) = 0
                move(0) = 2
                throwAway(0) = 40
                claim(0) = 2 3
                join(0) = 2 1
                make(1, 9) = 1
                make(1, 9) = 2
                join(0) = 2 3
                """);
    }

    private void promise19() {
        story("19: tells whether there is a join: then, and not before the pieces are free", """
                make(1, 1) = 0
                make(1, 2) = 1
                make(1, 3) = 2
                throwAway(1) = 38
                throwAway(0) = 39
                grow(2) = 0
                grow(2) = 1
                throwAway(2) = 40
                hasJoin(2) = true
                claim(2) = 2 3 4
                confidence(2) = 1
                hasJoin(0) = false
                hasJoin(1) = false
                """);
        story("19: false if it had more than 4 clusters", """
                make(4, 5) = 0
                make(5, 6) = 1
                make(8, 7) = 2
                throwAway(0) = 27
                throwAway(1) = 32
                throwAway(2) = 40
                hasJoin(0) = true
                hasJoin(1) = false
                hasJoin(2) = false
                """);
        story("19: of the last of 30 files", "make(1, 0)\n".repeat(30) + """
                throwAway(29) = 11
                hasJoin(29) = true
                hasJoin(28) throws IllegalStateException
                """);
        noSuchFile("19", "hasJoin(", ")");
        notThrownAway("19", "hasJoin(", ")");
        story("19: throws if it is not thrown away, though it has more than 4 clusters", """
                make(5, 5) = 0
                hasJoin(0) throws IllegalStateException
                """);
    }

    private void promise20() {
        story("20: place 0 to the number of clusters that it had, minus 1: of 1", """
                make(1, 5) = 0
                throwAway(0) = 40
                joinAt(0, -1) throws IllegalArgumentException
                joinAt(0, 0) = 0
                joinAt(0, 1) throws IllegalArgumentException
                joinAt(0, MIN) throws IllegalArgumentException
                joinAt(0, MAX) throws IllegalArgumentException
                """);
        story("20: place 0 to the number of clusters that it had, minus 1: of 2 and 3", """
                make(2, 5) = 0
                make(3, 6) = 1
                throwAway(0) = 37
                throwAway(1) = 40
                joinAt(0, 1) = 1
                joinAt(0, 2) throws IllegalArgumentException
                joinAt(1, 2) = 4
                joinAt(1, 3) throws IllegalArgumentException
                """);
        story("20: place 0 to the number of clusters that it had, minus 1: of 4", """
                make(4, 5) = 0
                throwAway(0) = 40
                joinAt(0, -1) throws IllegalArgumentException
                joinAt(0, 0) = 0
                joinAt(0, 3) = 3
                joinAt(0, 4) throws IllegalArgumentException
                """);
        story("20: place 0 to the number of clusters that it had, minus 1: of 5 and 8", """
                make(5, 5) = 0
                make(8, 6) = 1
                throwAway(0) = 32
                throwAway(1) = 40
                joinAt(0, -1) throws IllegalArgumentException
                joinAt(0, 4) throws IllegalStateException
                joinAt(0, 5) throws IllegalArgumentException
                joinAt(1, 7) throws IllegalStateException
                joinAt(1, 8) throws IllegalArgumentException
                """);
        story("20: returns a cluster of the join that is told, not of the chain or the claim", """
                make(3, 5) = 0
                move(0) = 3
                throwAway(0) = 40
                claim(0) = 3 4 5
                joinAt(0, 0) = 3
                joinAt(0, 1) = 1
                joinAt(0, 2) = 2
                """);
        story("20: returns a cluster of the join of this file, whichever was asked last", """
                make(2, 5) = 0
                make(2, 6) = 1
                throwAway(0) = 38
                throwAway(1) = 40
                hasJoin(0) = true
                joinAt(1, 0) = 2
                joinAt(0, 1) = 1
                hasJoin(1) = true
                joinAt(0, 0) = 0
                joinAt(1, 1) = 3
                """);
    }

    private void promise20Refusals() {
        noSuchFile("20", "joinAt(", ", 0)");
        noSuchFile("20", "joinAt(", ", 8)");
        notThrownAway("20", "joinAt(", ", 0)");
        notThrownAway("20", "joinAt(", ", 3)");
        story("20: throws if it has no join: at each place", """
                make(2, 5) = 0
                throwAway(0) = 40
                make(1, 6) = 1
                joinAt(0, 0) throws IllegalStateException
                joinAt(0, 1) throws IllegalStateException
                joinAt(0, 2) throws IllegalArgumentException
                throwAway(1) = 40
                joinAt(0, 0) throws IllegalStateException
                joinAt(0, 1) throws IllegalStateException
                """);
        story("20: IllegalArgumentException is listed ahead of IllegalStateException: not thrown away", """
                make(2, 5) = 0
                joinAt(0, -1) throws IllegalArgumentException
                joinAt(0, 8) throws IllegalArgumentException
                joinAt(0, 1) throws IllegalStateException
                """);
        story("20: IllegalArgumentException is listed ahead of IllegalStateException: no join", """
                make(2, 5) = 0
                throwAway(0) = 40
                make(1, 6) = 1
                joinAt(0, -1) throws IllegalArgumentException
                joinAt(0, 2) throws IllegalArgumentException
                """);
    }

    private void noSuchFile(String promise, String call, String rest) {
        EdgeRows.noSuchFile(check, promise, call, rest);
    }

    private void notThrownAway(String promise, String call, String rest) {
        EdgeRows.notThrownAway(check, promise, call, rest);
    }

    private void story(String sentence, String rows) {
        Story.tell(check, sentence, rows);
    }
}
