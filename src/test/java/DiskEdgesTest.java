/** The edges that 'Terms' and 'Disk' name: a story for each sentence, or for each half of a long one. */
public final class DiskEdgesTest {
    private static final String FULL = "make(8, 0)\n".repeat(5);

    private final Check check = new Check();

    public static void main(String[] args) {
        DiskEdgesTest test = new DiskEdgesTest();
        test.terms();
        test.clusters();
        test.files();
        test.taking();
        test.making();
        test.growing();
        test.moving();
        test.throwingAway();
        test.checksums();
        test.callsOfOneObject();
        test.check.end();
    }

    private void terms() {
        story("the constants: NONE = -1, there is none", """
                fileOf(0) = -1
                ownerOf(0) = -1
                make(1, 5) = 0
                throwAway(0) = 40
                claimAt(0, 1) = -1
                """);
        check.same("the constants: NONE", "-1", String.valueOf(GraveyardReader.NONE));
        story("if several apply, the first is thrown: of no such file and a place", """
                make(2, 5) = 0
                clusterAt(1, -1) throws IndexOutOfBoundsException
                clusterAt(-1, 2) throws IndexOutOfBoundsException
                claimAt(1, 8) throws IndexOutOfBoundsException
                claimAt(-1, -1) throws IndexOutOfBoundsException
                joinAt(1, -1) throws IndexOutOfBoundsException
                joinAt(-1, 2) throws IndexOutOfBoundsException
                """);
        story("if several apply, the first is thrown: of no such cluster and a place", """
                number(-1, -1) throws IndexOutOfBoundsException
                number(40, 4) throws IndexOutOfBoundsException
                number(MIN, MAX) throws IndexOutOfBoundsException
                """);
        story("if several apply, the first is thrown: of a place and a state", """
                make(2, 5) = 0
                make(2, 6) = 1
                throwAway(1) = 38
                // clusterAt wants a file that is there, claimAt and joinAt one that is thrown away
                clusterAt(1, 2) throws IllegalArgumentException
                clusterAt(1, 1) throws IllegalStateException
                claimAt(0, 8) throws IllegalArgumentException
                claimAt(0, 7) throws IllegalStateException
                joinAt(0, 2) throws IllegalArgumentException
                joinAt(0, 1) throws IllegalStateException
                """);
        story("if several apply, the first is thrown: of an argument and a full disk", FULL + """
                make(9, 0) throws IllegalArgumentException
                make(0, 0) throws IllegalArgumentException
                make(1, -1) throws IllegalArgumentException
                make(1, 10001) throws IllegalArgumentException
                make(1, 0) throws IllegalStateException
                """);
        story("if several apply, the first is thrown: of an argument and 30 files", "make(1, 0)\n".repeat(30) + """
                make(9, 0) throws IllegalArgumentException
                make(0, 0) throws IllegalArgumentException
                make(1, -1) throws IllegalArgumentException
                make(1, 10001) throws IllegalArgumentException
                make(1, 0) throws IllegalStateException
                """);
        story("a call that throws changes nothing: make", FULL + """
                throwAway(2) = 8
                make(7, 3) = 5
                make(2, 4) throws IllegalStateException
                make(8, 4) throws IllegalStateException
                make(1, 10001) throws IllegalArgumentException
                free() = 1
                files() = 6
                fileOf(23) = -1
                numbers(23) = 36 73 110 254
                make(1, 4) = 6
                fileOf(23) = 6
                """);
        story("a call that throws changes nothing: grow", FULL + """
                throwAway(4) = 8
                grow(0) throws IllegalStateException
                make(7, 3) = 5
                make(1, 4) = 6
                grow(5) throws IllegalStateException
                clusters(0) = 8
                clusters(5) = 7
                numbers(7) = 36 73 110 254
                numbers(38) = 141 178 215 254
                numbers(39) = 255 41 78 254
                """);
        story("a call that throws changes nothing: move", FULL + """
                throwAway(2) = 8
                make(1, 3) = 5
                move(0) throws IllegalStateException
                chain(0) = 0 1 2 3 4 5 6 7
                free() = 7
                fileOf(17) = -1
                fileOf(0) = 0
                numbers(17) = 148 185 222 9
                """);
        story("a call that throws changes nothing: throwAway", """
                make(1, 3) = 0
                make(1, 4) = 1
                throwAway(1) = 39
                throwAway(0) = 40
                make(1, 5) = 2
                move(2) = 1
                make(1, 6) = 3
                throwAway(1) throws IllegalStateException
                free() = 38
                fileOf(1) = 2
                checksum(1) = 1587
                """);
        story("a call that throws changes nothing: throwAway, not the order either", """
                make(1, 5) = 0
                throwAway(0) = 40
                make(1, 5) = 1
                throwAway(1) = 40
                throwAway(0) throws IllegalStateException
                ownerOf(0) = 1
                owned(0) = 0
                owned(1) = 1
                """);
    }

    private void clusters() {
        story("the disk has the clusters 0 to 39", """
                fileOf(-1) throws IndexOutOfBoundsException
                fileOf(0) = -1
                fileOf(39) = -1
                fileOf(40) throws IndexOutOfBoundsException
                free() = 40
                """ + FULL + """
                free() = 0
                fileOf(0) = 0
                fileOf(39) = 4
                """);
        story("each holds 4 numbers", """
                make(1, 5) = 0
                number(0, -1) throws IllegalArgumentException
                numbers(0) = 255 42 79 254
                number(0, 4) throws IllegalArgumentException
                number(39, -1) throws IllegalArgumentException
                numbers(39) = 0 0 0 0
                number(39, 4) throws IllegalArgumentException
                """);
        StringBuilder rows = new StringBuilder();
        for (int cluster = 0; cluster < 40; cluster++) {
            rows.append("numbers(").append(cluster).append(") = 0 0 0 0\n");
        }
        story("0 at first", rows.toString());
        story("0 at first, until it is taken", """
                make(1, 5) = 0
                numbers(1) = 0 0 0 0
                move(0) = 1
                numbers(1) = 255 42 79 254
                numbers(2) = 0 0 0 0
                """);
        story("and is free or belongs to a file", """
                make(1, 5) = 0
                fileOf(0) = 0
                fileOf(1) = -1
                move(0) = 1
                fileOf(0) = -1
                fileOf(1) = 0
                throwAway(0) = 40
                fileOf(1) = -1
                """);
    }

    private void files() {
        story("files are numbered from 0 in the order in which they are made", """
                make(1, 5) = 0
                make(1, 5) = 1
                throwAway(0) = 39
                make(1, 5) = 2
                throwAway(2) = 39
                throwAway(1) = 40
                make(0, 5) throws IllegalArgumentException
                make(1, 5) = 3
                fileOf(0) = 3
                """);
        StringBuilder rows = new StringBuilder();
        for (int file = 0; file < 30; file++) {
            rows.append("make(1, 5) = ").append(file).append('\n');
        }
        story("at most 30 are made, all there", rows + """
                make(1, 5) throws IllegalStateException
                files() = 30
                free() = 10
                """);
        for (int file = 0; file < 30; file++) {
            rows.append("throwAway(").append(file).append(")\n");
        }
        story("at most 30 are made, all thrown away", rows + """
                free() = 40
                make(1, 5) throws IllegalStateException
                files() = 30
                """);
        story("a file has clusters in an order, its chain", """
                make(1, 5) = 0
                make(1, 6) = 1
                make(1, 7) = 2
                throwAway(0) = 38
                grow(2) = 0
                grow(2) = 3
                chain(2) = 2 0 3
                throwAway(1) = 37
                grow(2) = 1
                chain(2) = 2 0 3 1
                """);
        story("the numbers of the file are those of its clusters one behind the other", """
                make(1, 5) = 0
                make(1, 6) = 1
                throwAway(0) = 39
                grow(1) = 0
                // 255 43 80 117 154 191 228 254, though 154 lies in the cluster 0
                checksum(1) = 6593
                """);
    }

    private void taking() {
        story("a cluster that make takes is the free one with the lowest number", FULL + """
                throwAway(1) = 8
                throwAway(3) = 16
                make(8, 5) = 5
                chain(5) = 8 9 10 11 12 13 14 15
                make(1, 5) = 6
                chain(6) = 24
                throwAway(0) = 15
                make(8, 5) = 7
                chain(7) = 0 1 2 3 4 5 6 7
                make(7, 5) = 8
                chain(8) = 25 26 27 28 29 30 31
                """);
        story("a cluster that make takes may lie on both sides of another file", """
                make(1, 1) = 0
                make(1, 2) = 1
                make(1, 3) = 2
                throwAway(1) = 38
                make(3, 4) = 3
                chain(3) = 1 3 4
                """);
        story("a cluster that grow takes is the free one with the lowest number", FULL + """
                throwAway(4) = 8
                make(7, 1) = 5
                grow(5) = 39
                throwAway(0) = 8
                make(7, 2) = 6
                grow(6) = 7
                """);
        story("the clusters that move takes are the free ones with the lowest numbers", """
                make(1, 1) = 0
                make(2, 2) = 1
                make(1, 3) = 2
                throwAway(0) = 37
                move(1) = 0
                chain(1) = 0 4
                move(2) = 1
                move(2) = 2
                """);
    }

    private void making() {
        story("as many clusters as told are taken: 1", """
                make(1, 5) = 0
                chain(0) = 0
                free() = 39
                """);
        story("as many clusters as told are taken: 8", """
                make(8, 5) = 0
                chain(0) = 0 1 2 3 4 5 6 7
                free() = 32
                fileOf(8) = -1
                """);
        story("the number i is (seed + 37 * i) modulo 250: 249, 0 and 1 at i = 1", """
                make(1, 212) = 0
                make(1, 213) = 1
                make(1, 214) = 2
                number(0, 1) = 249
                number(1, 1) = 0
                number(2, 1) = 1
                """);
        story("the number i is (seed + 37 * i) modulo 250: i from 0 to 31", """
                make(8, 0) = 0
                numbers(0) = 255 37 74 111
                numbers(1) = 148 185 222 9
                numbers(2) = 46 83 120 157
                numbers(3) = 194 231 18 55
                numbers(4) = 92 129 166 203
                numbers(5) = 240 27 64 101
                numbers(6) = 138 175 212 249
                numbers(7) = 36 73 110 254
                """);
        story("the number i is (seed + 37 * i) modulo 250: the greatest seeds", """
                make(2, 10000) = 0
                numbers(0) = 255 37 74 111
                numbers(1) = 148 185 222 254
                make(2, 9999) = 1
                numbers(2) = 255 36 73 110
                numbers(3) = 147 184 221 254
                """);
        story("then the first number becomes 255, and the last one 254: in one cluster", """
                make(1, 0) = 0
                numbers(0) = 255 37 74 254
                numbers(1) = 0 0 0 0
                """);
        story("then the first number becomes 255, and the last one 254: in two clusters", """
                make(2, 0) = 0
                numbers(0) = 255 37 74 111
                numbers(1) = 148 185 222 254
                numbers(2) = 0 0 0 0
                """);
        story("then the first number becomes 255, and the last one 254: over what lay there", """
                make(2, 0) = 0
                throwAway(0) = 40
                make(2, 100) = 1
                numbers(0) = 255 137 174 211
                numbers(1) = 248 35 72 254
                """);
    }

    private void growing() {
        story("the last number becomes what it was by the rule: 0, and 249", """
                make(1, 139) = 0
                make(1, 138) = 1
                grow(0) = 2
                grow(1) = 3
                numbers(0) = 255 176 213 0
                numbers(1) = 255 175 212 249
                """);
        story("the last number becomes what it was by the rule: each time until 8 clusters", """
                make(1, 0) = 0
                grow(0) = 1
                number(0, 3) = 111
                grow(0) = 2
                number(1, 3) = 9
                grow(0) = 3
                number(2, 3) = 157
                grow(0) = 4
                number(3, 3) = 55
                grow(0) = 5
                number(4, 3) = 203
                grow(0) = 6
                number(5, 3) = 101
                grow(0) = 7
                number(6, 3) = 249
                number(7, 3) = 254
                """);
        story("the last number becomes what it was by the rule, the first one stays", """
                make(1, 0) = 0
                grow(0) = 1
                grow(0) = 2
                number(0, 0) = 255
                """);
        story("a cluster is taken and put behind, though its number is lower", FULL + """
                throwAway(4) = 8
                make(7, 1) = 5
                make(1, 2) = 6
                throwAway(0) = 8
                grow(6) = 0
                chain(6) = 39 0
                fileOf(0) = 6
                """);
        story("its numbers follow by the rule with the same seed: from 7 to 8 clusters", """
                make(7, 10000) = 0
                grow(0) = 7
                numbers(6) = 138 175 212 249
                numbers(7) = 36 73 110 254
                """);
        story("its numbers follow by the rule with the same seed, though it was moved", """
                make(1, 5) = 0
                move(0) = 1
                make(1, 77) = 1
                grow(0) = 2
                numbers(1) = 255 42 79 116
                numbers(2) = 153 190 227 254
                numbers(0) = 255 114 151 254
                """);
        story("and the last one becomes 254", """
                make(1, 5) = 0
                grow(0) = 1
                number(1, 3) = 254
                grow(0) = 2
                number(2, 3) = 254
                number(1, 3) = 14
                """);
    }

    private void moving() {
        story("a file that is moved takes as many clusters as it has: 1", """
                make(1, 5) = 0
                move(0) = 1
                chain(0) = 1
                free() = 39
                fileOf(2) = -1
                """);
        story("a file that is moved takes as many clusters as it has: 8, the last of the disk", """
                make(8, 0) = 0
                make(8, 1) = 1
                make(8, 2) = 2
                make(8, 3) = 3
                move(0) = 32
                chain(0) = 32 33 34 35 36 37 38 39
                free() = 8
                """);
        story("a file that is moved takes them ahead of leaving its old ones", """
                make(2, 5) = 0
                move(0) = 2
                chain(0) = 2 3
                move(0) = 0
                chain(0) = 0 1
                """);
        story("the numbers are copied to them in their order", """
                make(1, 5) = 0
                make(1, 9) = 1
                make(1, 3) = 2
                throwAway(0) = 38
                grow(2) = 0
                chain(2) = 2 0
                move(2) = 3
                chain(2) = 3 4
                numbers(3) = 255 40 77 114
                numbers(4) = 151 188 225 254
                """);
        story("the numbers of 8 clusters are copied to them in their order", """
                make(8, 0) = 0
                move(0) = 8
                numbers(8) = 255 37 74 111
                numbers(9) = 148 185 222 9
                numbers(14) = 138 175 212 249
                numbers(15) = 36 73 110 254
                numbers(16) = 0 0 0 0
                """);
        story("and its old clusters are free then", """
                make(2, 5) = 0
                move(0) = 2
                fileOf(0) = -1
                fileOf(1) = -1
                free() = 38
                make(2, 6) = 1
                chain(1) = 0 1
                """);
        story("its old clusters are free with what they hold", """
                make(2, 5) = 0
                move(0) = 2
                numbers(0) = 255 42 79 116
                numbers(1) = 153 190 227 254
                grow(0) = 0
                numbers(1) = 153 190 227 254
                numbers(3) = 153 190 227 14
                """);
    }

    private void throwingAway() {
        story("a file that is thrown away has its clusters free: 1", """
                make(1, 5) = 0
                make(1, 6) = 1
                throwAway(0) = 39
                fileOf(0) = -1
                fileOf(1) = 1
                free() = 39
                """);
        story("a file that is thrown away has its clusters free: 8, wherever they lie", """
                make(1, 0) = 0
                make(7, 1) = 1
                throwAway(0) = 33
                grow(1) = 0
                throwAway(1) = 40
                fileOf(0) = -1
                fileOf(1) = -1
                fileOf(7) = -1
                """);
        story("its clusters are free with what they hold", """
                make(2, 5) = 0
                throwAway(0) = 40
                numbers(0) = 255 42 79 116
                numbers(1) = 153 190 227 254
                """);
    }

    private void checksums() {
        story("the checksum is the sum of each number times its place, counted from 1", """
                // 255 + 2 * 37 + 3 * 74 + 4 * 254
                make(1, 0) = 0
                checksum(0) = 1567
                // the smallest that a file has: 255 + 2 * 0 + 3 * 37 + 4 * 254
                make(1, 213) = 1
                checksum(1) = 1382
                """);
        story("modulo 9973: sums of 9953 and 9983", """
                make(3, 248) = 0
                checksum(0) = 9953
                make(3, 210) = 1
                checksum(1) = 10
                """);
        story("modulo 9973: sums of 19947, 29915 and 77368", """
                make(4, 52) = 0
                checksum(0) = 1
                make(5, 230) = 1
                checksum(1) = 9969
                make(8, 111) = 2
                checksum(2) = 7557
                """);
    }

    private void callsOfOneObject() {
        story("an object is used for at most 512 calls: the last one changes the disk", "free() = 40\n".repeat(511) + """
                make(8, 0) = 0
                """);
        story("an object is used for at most 512 calls: moves there and back", "make(8, 0) = 0\n"
                + "move(0) = 8\nmove(0) = 0\n".repeat(250) + "checksum(0) = 2112\nchain(0) = 0 1 2 3 4 5 6 7\n");
        story("an object is used for at most 512 calls: joins that are looked for in vain", """
                make(4, 5) = 0
                throwAway(0) = 40
                make(4, 6) = 1
                throwAway(1) = 40
                """ + "hasJoin(0) = false\n".repeat(508));
    }

    private void story(String sentence, String rows) {
        Story.tell(check, sentence, rows);
    }
}
