/** The edges that 'Claims' and the promises 13 to 18 name: a story for each sentence. */
public final class ClaimEdgesTest {
    private static final String FULL = "make(8, 0)\n".repeat(5);

    /** The file 5 has the cluster 39 alone; the clusters 0 to 7 are free. */
    private static final String AT_THE_END = """
            make(8, 0)
            make(8, 0)
            make(8, 0)
            make(8, 0)
            make(7, 0)
            make(1, 0) = 5
            throwAway(0) = 8
            """;

    private final Check check = new Check();

    public static void main(String[] args) {
        ClaimEdgesTest test = new ClaimEdgesTest();
        test.entries();
        test.claims();
        test.claimsThatEndWithTheDisk();
        test.emptyClaims();
        test.confidence3();
        test.confidence2();
        test.confidence1And0();
        test.belongingByConfidence();
        test.belongingByTime();
        test.promise13();
        test.promise14();
        test.promise15();
        test.promise16();
        test.promise17();
        test.promise18();
        test.check.end();
    }

    private void entries() {
        story("its entry still lies there: its first cluster as of the time when it was thrown away", """
                make(2, 5) = 0
                move(0) = 2
                throwAway(0) = 40
                claim(0) = 2 3
                make(2, 6) = 1
                claim(0) = 2 3
                """);
        story("its entry still lies there: how many clusters it had when it was thrown away", """
                make(1, 5) = 0
                grow(0) = 1
                grow(0) = 2
                throwAway(0) = 40
                claim(0) = 0 1 2
                clusters(0) = 3
                """);
        story("its entry still lies there: the checksum of its numbers when it was thrown away", """
                make(1, 0) = 0
                checksum(0) = 1567
                grow(0) = 1
                throwAway(0) = 40
                confidence(0) = 3
                make(1, 1) = 1
                checksum(0) = 6431
                throwAway(1) = 40
                confidence(0) = 2
                """);
        story("its entry still lies there: with what it held when it was thrown away", """
                make(1, 0) = 0
                throwAway(0) = 40
                make(1, 1) = 1
                throwAway(1) = 40
                checksum(0) = 1567
                checksum(1) = 1572
                confidence(0) = 2
                confidence(1) = 3
                """);
    }

    private void claims() {
        story("from its first cluster on", """
                make(2, 1) = 0
                make(2, 2) = 1
                throwAway(0) = 38
                throwAway(1) = 40
                claim(0) = 0 1
                claim(1) = 2 3
                """);
        story("by rising numbers, whatever the chain was", """
                make(1, 1) = 0
                make(1, 2) = 1
                throwAway(0) = 39
                grow(1) = 0
                chain(1) = 1 0
                throwAway(1) = 40
                claim(1) = 1 2
                """);
        story("clusters that are free now are taken: those that are not are left out", """
                make(3, 1) = 0
                make(1, 2) = 1
                throwAway(0) = 39
                make(1, 3) = 2
                make(1, 4) = 3
                throwAway(2) = 38
                // 1 is file 3's, 3 is file 1's
                claim(0) = 0 2 4
                throwAway(3) = 39
                claim(0) = 0 1 2
                """);
        story("clusters that are free now are taken: after each call that changes the disk", """
                make(2, 1) = 0
                make(1, 2) = 1
                throwAway(0) = 39
                claim(0) = 0 1
                grow(1) = 0
                claim(0) = none
                move(1) = 1
                claim(0) = 0 2
                make(1, 3) = 2
                claim(0) = none
                throwAway(2) = 38
                claim(0) = 0 2
                throwAway(1) = 40
                claim(0) = 0 1
                """);
        story("until there are as many as it had: 1", """
                make(1, 1) = 0
                throwAway(0) = 40
                claim(0) = 0
                """);
        story("until there are as many as it had: 8", """
                make(8, 1) = 0
                throwAway(0) = 40
                claim(0) = 0 1 2 3 4 5 6 7
                """);
    }

    private void claimsThatEndWithTheDisk() {
        story("or the disk ends: with as many as it had, 8", FULL + """
                throwAway(4) = 8
                claim(4) = 32 33 34 35 36 37 38 39
                confidence(4) = 3
                """);
        story("or the disk ends: with as many as it had, 1", AT_THE_END + """
                throwAway(5) = 9
                claim(5) = 39
                confidence(5) = 3
                """);
        story("or the disk ends: with 1 of 2", AT_THE_END + """
                grow(5) = 0
                throwAway(5) = 9
                claim(5) = 39
                claimed(5) = 1
                clusters(5) = 2
                """);
        story("or the disk ends: with 1 of 8, and nothing from its beginning", AT_THE_END + """
                grow(5) = 0
                grow(5) = 1
                grow(5) = 2
                grow(5) = 3
                grow(5) = 4
                grow(5) = 5
                grow(5) = 6
                throwAway(5) = 9
                claim(5) = 39
                """);
        story("or the disk ends: since one of them is not free now", FULL + """
                throwAway(4) = 8
                make(7, 1) = 5
                make(1, 2) = 6
                throwAway(5) = 7
                claim(4) = 32 33 34 35 36 37 38
                claim(5) = 32 33 34 35 36 37 38
                throwAway(6) = 8
                claim(4) = 32 33 34 35 36 37 38 39
                """);
    }

    private void emptyClaims() {
        story("if the first cluster is not free now, the claim is empty, though the others are", """
                make(3, 1) = 0
                throwAway(0) = 40
                make(1, 2) = 1
                claim(0) = none
                fileOf(1) = -1
                owned(0) = 0
                ownerOf(1) = -1
                confidence(0) = 0
                sure() = 0
                """);
        story("if the first cluster is not free now, and of one cluster", """
                make(1, 1) = 0
                throwAway(0) = 40
                make(1, 1) = 1
                claim(0) = none
                confidence(0) = 0
                """);
        story("if the first cluster is free again, the claim is not empty", """
                make(2, 1) = 0
                throwAway(0) = 40
                make(1, 2) = 1
                claim(0) = none
                move(1) = 1
                claim(0) = 0 2
                move(1) = 0
                claim(0) = none
                throwAway(1) = 40
                claim(0) = 0 1
                """);
        story("if the first cluster is not free now: on a full disk", FULL + """
                throwAway(4) = 8
                make(8, 0) = 5
                claim(4) = none
                confidence(4) = 0
                """);
    }

    private void confidence3() {
        story("3, if the claim has as many clusters and the checksum: 1, and 8", """
                make(1, 0) = 0
                make(8, 111) = 1
                throwAway(0) = 32
                throwAway(1) = 40
                confidence(0) = 3
                confidence(1) = 3
                """);
        story("3, if the checksum is that of the entry: of what another file wrote there", """
                make(2, 5) = 0
                throwAway(0) = 40
                make(2, 5) = 1
                confidence(0) = 0
                throwAway(1) = 40
                confidence(0) = 3
                """);
        story("3, if the checksum is that of the entry, though the first number is not 255", """
                make(1, 3) = 0
                make(1, 147) = 1
                throwAway(0) = 39
                grow(1) = 0
                throwAway(1) = 40
                numbers(0) = 45 82 119 254
                checksum(0) = 1582
                confidence(0) = 3
                """);
        story("3, if the checksum is that of the entry, though the last number is not 254", """
                make(1, 213) = 0
                throwAway(0) = 40
                make(2, 43) = 1
                throwAway(1) = 40
                numbers(0) = 255 80 117 154
                checksum(0) = 1382
                confidence(0) = 3
                """);
        story("3, not if the claim has fewer clusters, though with the checksum", AT_THE_END + """
                grow(5) = 0
                grow(5) = 1
                grow(5) = 2
                grow(5) = 3
                grow(5) = 4
                grow(5) = 5
                grow(5) = 6
                throwAway(5) = 9
                make(8, 0) = 6
                make(1, 109) = 7
                throwAway(7) = 1
                checksum(5) = 2112
                checksum(7) = 2112
                claim(5) = 39
                confidence(5) = 1
                confidence(7) = 3
                """);
        story("3, not if the checksum is another one by a single number", """
                make(1, 0) = 0
                throwAway(0) = 40
                make(1, 1) = 1
                throwAway(1) = 40
                checksum(0) = 1567
                checksum(1) = 1572
                confidence(0) = 2
                """);
        story("3, though another cluster than that of the chain holds the numbers", """
                make(1, 5) = 0
                make(1, 9) = 1
                grow(0) = 2
                make(1, 5) = 2
                throwAway(1) = 37
                grow(2) = 1
                throwAway(2) = 38
                throwAway(0) = 40
                claim(0) = 0 1
                confidence(0) = 3
                """);
        story("3, though the clusters of the chain came with gaps", """
                make(1, 1) = 0
                make(1, 2) = 1
                grow(0) = 2
                throwAway(0) = 39
                claim(0) = 0 2
                confidence(0) = 3
                throwAway(1) = 40
                claim(0) = 0 1
                confidence(0) = 2
                """);
    }

    private void confidence2() {
        story("2, if it begins with 255, has as many clusters and ends with 254", """
                make(2, 0) = 0
                throwAway(0) = 40
                make(2, 1) = 1
                throwAway(1) = 40
                confidence(0) = 2
                """);
        story("2, not if the first number is not 255", """
                make(1, 0) = 0
                make(1, 1) = 1
                throwAway(0) = 39
                grow(1) = 0
                throwAway(1) = 40
                numbers(0) = 149 186 223 254
                claim(0) = 0
                confidence(0) = 0
                """);
        story("2, not if the claim has fewer clusters, though it ends with 254", AT_THE_END + """
                grow(5) = 0
                throwAway(5) = 9
                make(8, 0) = 6
                make(1, 7) = 7
                throwAway(7) = 1
                numbers(39) = 255 44 81 254
                claim(5) = 39
                confidence(5) = 1
                """);
        story("2, not if the last number is not 254", """
                make(1, 0) = 0
                throwAway(0) = 40
                make(2, 1) = 1
                throwAway(1) = 40
                numbers(0) = 255 38 75 112
                claim(0) = 0
                confidence(0) = 1
                """);
        story("2, not if the last number is not 254, though it stands elsewhere", """
                make(3, 0) = 0
                throwAway(0) = 40
                make(2, 1) = 1
                throwAway(1) = 40
                grow(1) throws IllegalStateException
                make(4, 2) = 2
                throwAway(2) = 40
                make(1, 3) = 3
                throwAway(3) = 40
                number(0, 3) = 254
                number(2, 3) = 159
                confidence(0) = 1
                """);
    }

    private void confidence1And0() {
        story("1, if the first number is 255: with as many clusters", """
                make(1, 1) = 0
                make(1, 2) = 1
                throwAway(0) = 39
                grow(1) = 0
                throwAway(1) = 40
                claim(1) = 1 2
                numbers(2) = 0 0 0 0
                confidence(1) = 1
                """);
        story("1, if the first number is 255: with fewer clusters", AT_THE_END + """
                grow(5) = 0
                throwAway(5) = 9
                number(39, 0) = 255
                confidence(5) = 1
                """);
        story("otherwise 0: with fewer clusters", AT_THE_END + """
                grow(5) = 0
                throwAway(5) = 9
                make(7, 1) = 6
                make(1, 2) = 7
                grow(7) = 39
                throwAway(7) = 2
                number(39, 0) = 150
                claim(5) = 39
                confidence(5) = 0
                """);
        story("0, if its claim is empty, though what it held still lies there", """
                make(1, 5) = 0
                throwAway(0) = 40
                confidence(0) = 3
                make(1, 5) = 1
                numbers(0) = 255 42 79 254
                confidence(0) = 0
                """);
        story("the confidence is that of now", """
                make(1, 0) = 0
                throwAway(0) = 40
                confidence(0) = 3
                make(1, 1) = 1
                confidence(0) = 0
                move(1) = 1
                confidence(0) = 2
                make(2, 2) = 2
                chain(2) = 0 2
                move(2) = 3
                confidence(0) = 1
                make(1, 0) = 3
                move(3) = 2
                confidence(0) = 3
                """);
    }

    private void belongingByConfidence() {
        story("belongs to the one with the greatest confidence: 3 ahead of a later 2", """
                make(1, 1) = 0
                make(1, 2) = 1
                grow(0) = 2
                throwAway(1) = 38
                throwAway(0) = 40
                claim(0) = 0 1
                claim(1) = 1
                confidence(0) = 2
                confidence(1) = 3
                ownerOf(0) = 0
                ownerOf(1) = 1
                owned(0) = 1
                owned(1) = 1
                """);
        story("belongs to the one with the greatest confidence: 3 ahead of an earlier 2", """
                make(1, 1) = 0
                make(1, 2) = 1
                grow(0) = 2
                throwAway(0) = 39
                throwAway(1) = 40
                confidence(0) = 2
                confidence(1) = 3
                ownerOf(1) = 1
                """);
        story("belongs to the one with the greatest confidence: 3 ahead of a later 1", """
                make(1, 1) = 0
                make(1, 2) = 1
                grow(0) = 2
                grow(0) = 3
                throwAway(1) = 37
                throwAway(0) = 40
                claim(0) = 0 1 2
                confidence(0) = 1
                confidence(1) = 3
                ownerOf(0) = 0
                ownerOf(1) = 1
                ownerOf(2) = 0
                owned(0) = 2
                """);
        story("belongs to the one with the greatest confidence: 2 ahead of a later 1", """
                make(1, 1) = 0
                make(1, 2) = 1
                grow(0) = 2
                grow(0) = 3
                throwAway(1) = 37
                make(1, 9) = 2
                move(2) = 4
                throwAway(0) = 39
                confidence(0) = 1
                confidence(1) = 2
                ownerOf(0) = 0
                ownerOf(1) = 1
                ownerOf(2) = 0
                owned(0) = 2
                owned(1) = 1
                """);
        story("belongs to the one with the greatest confidence: 2 ahead of an earlier 1", """
                make(1, 1) = 0
                make(1, 2) = 1
                grow(0) = 2
                grow(0) = 3
                throwAway(0) = 39
                throwAway(1) = 40
                make(1, 8) = 2
                make(1, 7) = 3
                make(2, 6) = 4
                move(3) = 4
                throwAway(2) = 37
                claim(0) = 0 1 5
                claim(1) = 1
                confidence(0) = 1
                confidence(1) = 2
                ownerOf(0) = 2
                ownerOf(1) = 1
                ownerOf(5) = 0
                owned(0) = 1
                """);
        story("claims of the confidence 0 do not count, not even alone", """
                make(1, 1) = 0
                make(1, 2) = 1
                throwAway(0) = 39
                grow(1) = 0
                throwAway(1) = 40
                claim(0) = 0
                confidence(0) = 0
                ownerOf(0) = -1
                owned(0) = 0
                """);
        story("claims of the confidence 0 do not count, though thrown away last", """
                make(1, 1) = 0
                make(3, 2) = 1
                make(1, 3) = 2
                throwAway(1) = 38
                throwAway(2) = 39
                grow(0) = 1
                grow(0) = 2
                throwAway(0) = 40
                make(1, 4) = 3
                // 1 and 2 hold no 255 now: file 1 begins with the cluster 1
                confidence(1) = 0
                claim(1) = 1 2 3
                ownerOf(1) = -1
                ownerOf(3) = -1
                confidence(2) = 3
                ownerOf(4) = 2
                """);
    }

    private void belongingByTime() {
        story("of several to the file that was thrown away last: of confidence 3", """
                make(1, 5) = 0
                throwAway(0) = 40
                make(1, 5) = 1
                throwAway(1) = 40
                confidence(0) = 3
                confidence(1) = 3
                ownerOf(0) = 1
                owned(0) = 0
                owned(1) = 1
                """);
        story("of several to the file that was thrown away last, though its number is lower", """
                make(1, 5) = 0
                move(0) = 1
                make(1, 5) = 1
                throwAway(1) = 39
                move(0) = 0
                throwAway(0) = 40
                confidence(0) = 3
                confidence(1) = 3
                ownerOf(0) = 0
                owned(0) = 1
                owned(1) = 0
                """);
        story("of several to the file that was thrown away last: of three the middle one", """
                make(1, 5) = 0
                throwAway(0) = 40
                make(1, 5) = 1
                move(1) = 1
                make(1, 5) = 2
                throwAway(2) = 39
                move(1) = 0
                throwAway(1) = 40
                confidence(0) = 3
                confidence(1) = 3
                confidence(2) = 3
                ownerOf(0) = 1
                """);
        story("of several to the file that was thrown away last: of confidence 2", """
                make(1, 1) = 0
                throwAway(0) = 40
                make(1, 2) = 1
                throwAway(1) = 40
                make(1, 9) = 2
                move(2) = 1
                confidence(0) = 2
                confidence(1) = 2
                ownerOf(0) = 1
                """);
        story("of several to the file that was thrown away last: of confidence 2, the lower number", """
                make(1, 1) = 0
                move(0) = 1
                make(1, 2) = 1
                throwAway(1) = 39
                move(0) = 0
                throwAway(0) = 40
                make(1, 9) = 2
                move(2) = 1
                confidence(0) = 2
                confidence(1) = 2
                ownerOf(0) = 0
                """);
        story("of several to the file that was thrown away last: of confidence 1", """
                make(1, 1) = 0
                throwAway(0) = 40
                make(1, 2) = 1
                throwAway(1) = 40
                make(2, 9) = 2
                move(2) = 2
                confidence(0) = 1
                confidence(1) = 1
                ownerOf(0) = 1
                ownerOf(1) = -1
                """);
    }

    private void promise13() {
        story("13: how many clusters the claim has: 0, 1 and 8", """
                make(1, 0) = 0
                make(8, 1) = 1
                throwAway(0) = 32
                throwAway(1) = 40
                claimed(0) = 1
                claimed(1) = 8
                make(1, 2) = 2
                claimed(0) = 0
                claimed(1) = 8
                """);
        noSuchFile("13", "claimed(", ")");
        notThrownAway("13", "claimed(", ")");
    }

    private void promise14() {
        story("14: place 0 to 7", """
                make(8, 0) = 0
                throwAway(0) = 40
                claimAt(0, -1) throws IllegalArgumentException
                claimAt(0, 0) = 0
                claimAt(0, 7) = 7
                claimAt(0, 8) throws IllegalArgumentException
                claimAt(0, MIN) throws IllegalArgumentException
                claimAt(0, MAX) throws IllegalArgumentException
                """);
        story("14: place 0 to 7, however many clusters the claim has", """
                make(2, 0) = 0
                throwAway(0) = 40
                claimAt(0, -1) throws IllegalArgumentException
                claimAt(0, 1) = 1
                claimAt(0, 2) = -1
                claimAt(0, 7) = -1
                claimAt(0, 8) throws IllegalArgumentException
                """);
        story("14: NONE if the claim is shorter: empty", """
                make(8, 0) = 0
                throwAway(0) = 40
                make(1, 1) = 1
                claimAt(0, 0) = -1
                claimAt(0, 7) = -1
                claimAt(0, 8) throws IllegalArgumentException
                """);
        story("14: NONE if the claim is shorter: ended with the disk", AT_THE_END + """
                grow(5) = 0
                throwAway(5) = 9
                claimAt(5, 0) = 39
                claimAt(5, 1) = -1
                claimAt(5, 7) = -1
                """);
        noSuchFile("14", "claimAt(", ", 0)");
        noSuchFile("14", "claimAt(", ", 8)");
        notThrownAway("14", "claimAt(", ", 0)");
        notThrownAway("14", "claimAt(", ", 7)");
        story("14: IllegalArgumentException is listed ahead of IllegalStateException", """
                make(8, 0) = 0
                claimAt(0, -1) throws IllegalArgumentException
                claimAt(0, 8) throws IllegalArgumentException
                claimAt(0, 7) throws IllegalStateException
                """);
    }

    private void promise15() {
        story("15: returns the confidence of a file: of the first and the last", "make(1, 0)\n".repeat(30) + """
                throwAway(0) = 11
                throwAway(29) = 12
                confidence(0) = 3
                confidence(29) = 3
                """);
        noSuchFile("15", "confidence(", ")");
        notThrownAway("15", "confidence(", ")");
    }

    private void promise16() {
        story("16: returns the file to whose claim a cluster belongs: the first and the last of the disk", FULL + """
                throwAway(0) = 8
                throwAway(4) = 16
                ownerOf(0) = 0
                ownerOf(7) = 0
                ownerOf(32) = 4
                ownerOf(39) = 4
                """);
        story("16: NONE if there is none: never taken, and not free", """
                ownerOf(0) = -1
                make(1, 0) = 0
                make(1, 1) = 1
                ownerOf(0) = -1
                throwAway(1) = 39
                ownerOf(0) = -1
                ownerOf(1) = 1
                ownerOf(2) = -1
                """);
        story("16: NONE if there is none: free, but in no claim", """
                make(1, 0) = 0
                move(0) = 1
                ownerOf(0) = -1
                throwAway(0) = 40
                ownerOf(0) = -1
                ownerOf(1) = 0
                """);
        story("16: throws if there is no such cluster", """
                make(1, 0) = 0
                throwAway(0) = 40
                ownerOf(-1) throws IndexOutOfBoundsException
                ownerOf(0) = 0
                ownerOf(39) = -1
                ownerOf(40) throws IndexOutOfBoundsException
                ownerOf(MIN) throws IndexOutOfBoundsException
                ownerOf(MAX) throws IndexOutOfBoundsException
                """);
    }

    private void promise17() {
        story("17: how many clusters of the claim belong to it: 1 and 8", """
                make(1, 0) = 0
                make(8, 1) = 1
                throwAway(0) = 32
                throwAway(1) = 40
                owned(0) = 1
                owned(1) = 8
                """);
        story("17: how many clusters of the claim belong to it: up to the last of the disk", FULL + """
                throwAway(4) = 8
                owned(4) = 8
                """);
        story("17: how many clusters of the claim belong to it: 0, of an empty claim", """
                make(8, 0) = 0
                throwAway(0) = 40
                make(1, 1) = 1
                owned(0) = 0
                """);
        story("17: how many clusters of the claim belong to it: 0, since all are a later file's", """
                make(2, 5) = 0
                throwAway(0) = 40
                make(2, 5) = 1
                throwAway(1) = 40
                confidence(0) = 3
                owned(0) = 0
                owned(1) = 2
                """);
        story("17: how many clusters of the claim belong to it: some", """
                make(3, 5) = 0
                throwAway(0) = 40
                make(1, 5) = 1
                throwAway(1) = 40
                claimed(0) = 3
                owned(0) = 2
                owned(1) = 1
                """);
        noSuchFile("17", "owned(", ")");
        notThrownAway("17", "owned(", ")");
    }

    private void promise18() {
        story("18: the number of thrown-away files of the confidence 3: without files", """
                sure() = 0
                make(1, 0) = 0
                sure() = 0
                """);
        StringBuilder rows = new StringBuilder("make(1, 0)\n".repeat(30));
        for (int file = 0; file < 30; file++) {
            rows.append("throwAway(").append(file).append(")\n");
            rows.append("sure() = ").append(file + 1).append('\n');
        }
        story("18: the number of thrown-away files of the confidence 3: 1 to 30", rows.toString());
        story("18: not those of the confidence 2, 1 and 0", """
                make(1, 0) = 0
                throwAway(0) = 40
                sure() = 1
                make(1, 1) = 1
                confidence(0) = 0
                sure() = 0
                move(1) = 1
                confidence(0) = 2
                sure() = 0
                make(2, 2) = 2
                move(2) = 3
                confidence(0) = 1
                sure() = 0
                """);
        story("18: those too whose clusters belong to another file", """
                make(1, 5) = 0
                throwAway(0) = 40
                make(1, 5) = 1
                throwAway(1) = 40
                owned(0) = 0
                sure() = 2
                """);
    }

    private void noSuchFile(String promise, String call, String rest) {
        EdgeRows.noSuchFile(check, promise, call, rest);
    }

    private void notThrownAway(String promise, String call, String rest) {
        EdgeRows.notThrownAway(check, promise, call, rest);
    }

    private void story(String sentence, String rows) {
        Story.tell(check, sentence, rows);
    }
}
