/** The edges that the promises 1 to 12 name: a story for each sentence. */
public final class FileEdgesTest {
    private static final String FULL = "make(8, 0)\n".repeat(5);
    private static final String THIRTY = "make(1, 0)\n".repeat(30);

    private final Check check = new Check();

    public static void main(String[] args) {
        FileEdgesTest test = new FileEdgesTest();
        test.promise1();
        test.promise2();
        test.promise2Refusals();
        test.promise3();
        test.promise4();
        test.promise5();
        test.promise6();
        test.promise7();
        test.promise8();
        test.promise9();
        test.promise10();
        test.promise11();
        test.promise12();
        test.check.end();
    }

    private void promise1() {
        story("1: an empty disk: no files", """
                files() = 0
                sure() = 0
                """);
        StringBuilder rows = new StringBuilder("free() = 40\n");
        for (int cluster = 0; cluster < 40; cluster++) {
            rows.append("fileOf(").append(cluster).append(") = -1\n");
            rows.append("ownerOf(").append(cluster).append(") = -1\n");
            rows.append("numbers(").append(cluster).append(") = 0 0 0 0\n");
        }
        story("1: an empty disk: every cluster is free", rows.toString());
        story("1: an empty disk: nothing of another object's", """
                make(8, 3) = 0
                """);
        story("1: an empty disk: nothing of another object's", """
                files() = 0
                free() = 40
                numbers(0) = 0 0 0 0
                make(1, 5) = 0
                chain(0) = 0
                """);
    }

    private void promise2() {
        story("2: clusters 1 to 8", """
                make(0, 0) throws IllegalArgumentException
                make(1, 0) = 0
                make(8, 0) = 1
                make(9, 0) throws IllegalArgumentException
                make(-1, 0) throws IllegalArgumentException
                make(MIN, 0) throws IllegalArgumentException
                make(MAX, 0) throws IllegalArgumentException
                clusters(0) = 1
                clusters(1) = 8
                """);
        story("2: seed 0 to 10000", """
                make(1, -1) throws IllegalArgumentException
                make(1, 0) = 0
                make(1, 10000) = 1
                make(1, 10001) throws IllegalArgumentException
                make(1, MIN) throws IllegalArgumentException
                make(1, MAX) throws IllegalArgumentException
                numbers(0) = 255 37 74 254
                numbers(1) = 255 37 74 254
                """);
        story("2: both arguments at their ends", """
                make(1, 0) = 0
                make(8, 10000) = 1
                make(1, 10000) = 2
                make(8, 0) = 3
                make(0, -1) throws IllegalArgumentException
                make(9, 10001) throws IllegalArgumentException
                make(0, 10001) throws IllegalArgumentException
                make(9, -1) throws IllegalArgumentException
                """);
        story("2: returns its number: the first and the last", """
                make(1, 0) = 0
                make(1, 0) = 1
                """ + "make(1, 0)\n".repeat(27) + """
                make(1, 0) = 29
                fileOf(29) = 29
                """);
    }

    private void promise2Refusals() {
        story("2: throws if fewer clusters are free: 7 for 8", FULL + """
                throwAway(0) = 8
                make(1, 1) = 5
                make(8, 2) throws IllegalStateException
                make(7, 2) = 6
                """);
        story("2: throws if fewer clusters are free: 1 for 2", FULL + """
                throwAway(0) = 8
                make(7, 1) = 5
                make(2, 2) throws IllegalStateException
                make(1, 2) = 6
                """);
        story("2: throws if fewer clusters are free: none for 1", FULL + """
                make(1, 0) throws IllegalStateException
                make(8, 0) throws IllegalStateException
                throwAway(4) = 8
                make(8, 0) = 5
                free() = 0
                """);
        story("2: throws if 30 files were made: 29 were", THIRTY.substring("make(1, 0)\n".length()) + """
                make(8, 10000) = 29
                make(1, 0) throws IllegalStateException
                """);
        StringBuilder rows = new StringBuilder(THIRTY);
        rows.append("make(1, 0) throws IllegalStateException\n");
        for (int file = 0; file < 30; file++) {
            rows.append("throwAway(").append(file).append(")\n");
        }
        story("2: throws if 30 files were made: that are there, and that are thrown away", rows + """
                make(1, 0) throws IllegalStateException
                make(8, 0) throws IllegalStateException
                files() = 30
                """);
        story("2: IllegalArgumentException is listed ahead of IllegalStateException", FULL + """
                make(0, 0) throws IllegalArgumentException
                make(9, 0) throws IllegalArgumentException
                make(8, -1) throws IllegalArgumentException
                make(8, 10001) throws IllegalArgumentException
                """);
    }

    private void promise3() {
        story("3: returns the cluster: the lowest, and the last of the disk", FULL + """
                throwAway(4) = 8
                make(7, 1) = 5
                throwAway(0) = 9
                make(1, 2) = 6
                move(6) = 1
                grow(6) = 0
                grow(6) = 2
                make(5, 3) = 7
                grow(6) = 39
                chain(6) = 1 0 2 39
                """);
        noSuchFile("3", "grow(", ")");
        story("3: throws if it is thrown away", """
                make(1, 5) = 0
                throwAway(0) = 40
                grow(0) throws IllegalStateException
                clusters(0) = 1
                """);
        story("3: throws if it has 8 clusters: made with 8", """
                make(8, 5) = 0
                grow(0) throws IllegalStateException
                move(0) = 8
                grow(0) throws IllegalStateException
                """);
        story("3: throws if it has 8 clusters: made with 7, and with 1", """
                make(7, 5) = 0
                grow(0) = 7
                grow(0) throws IllegalStateException
                make(1, 6) = 1
                """ + "grow(1)\n".repeat(6) + """
                clusters(1) = 7
                grow(1) = 15
                clusters(1) = 8
                grow(1) throws IllegalStateException
                """);
        story("3: throws if none is free", FULL + """
                throwAway(4) = 8
                make(6, 1) = 5
                make(1, 2) = 6
                grow(6) = 39
                grow(6) throws IllegalStateException
                grow(5) throws IllegalStateException
                throwAway(6) = 2
                grow(5) = 38
                """);
    }

    private void promise4() {
        story("4: returns its first cluster then", """
                make(2, 5) = 0
                make(1, 6) = 1
                move(0) = 3
                move(1) = 0
                move(1) = 1
                move(0) = 0
                chain(0) = 0 2
                """);
        story("4: returns its first cluster then: the last of the disk", FULL + """
                throwAway(4) = 8
                make(7, 5) = 5
                throwAway(0) = 9
                make(8, 6) = 6
                make(1, 7) = 7
                throwAway(6) = 8
                make(7, 8) = 8
                move(7) = 7
                move(7) = 39
                """);
        noSuchFile("4", "move(", ")");
        story("4: throws if it is thrown away", """
                make(1, 5) = 0
                throwAway(0) = 40
                move(0) throws IllegalStateException
                checksum(0) = 1592
                fileOf(1) = -1
                """);
        story("4: throws if fewer clusters are free than it has: none for 1", FULL + """
                throwAway(4) = 8
                make(7, 5) = 5
                make(1, 5) = 6
                move(6) throws IllegalStateException
                throwAway(5) = 7
                make(6, 5) = 7
                move(6) = 38
                """);
        story("4: throws if fewer clusters are free than it has: 7 for 8", FULL + """
                throwAway(4) = 8
                make(1, 5) = 5
                move(0) throws IllegalStateException
                chain(0) = 0 1 2 3 4 5 6 7
                throwAway(5) = 8
                move(0) = 32
                """);
        story("4: throws if fewer clusters are free than it has: 3 for 4, not 4 for 4", """
                make(8, 0)
                make(8, 0)
                make(8, 0)
                make(8, 0)
                make(4, 5) = 4
                move(4) = 36
                make(1, 6) = 5
                move(4) throws IllegalStateException
                move(5) = 33
                """);
        story("4: throws if fewer clusters are free than it has, as it has now", FULL + """
                throwAway(4) = 8
                make(4, 5) = 5
                move(5) = 36
                grow(5) = 32
                move(5) throws IllegalStateException
                """);
    }

    private void promise5() {
        story("5: returns how many clusters are free then: 1, and 40", """
                make(8, 0)
                make(8, 0)
                make(8, 0)
                make(8, 0)
                make(7, 0)
                make(1, 0) = 5
                free() = 0
                throwAway(5) = 1
                throwAway(0) = 9
                throwAway(1) = 17
                throwAway(2) = 25
                throwAway(3) = 33
                throwAway(4) = 40
                """);
        story("5: returns how many clusters are free then: of a file that grew and was moved", """
                make(1, 5) = 0
                make(1, 5) = 1
                grow(0) = 2
                move(0) = 3
                throwAway(0) = 39
                """);
        noSuchFile("5", "throwAway(", ")");
        story("5: throws if it is thrown away", """
                make(1, 5) = 0
                make(1, 6) = 1
                throwAway(0) = 39
                throwAway(0) throws IllegalStateException
                make(1, 7) = 2
                throwAway(0) throws IllegalStateException
                fileOf(0) = 2
                """);
    }

    private void promise6() {
        story("6: the number of files that were made: 0, 1 and 30", "files() = 0\nmake(1, 0)\nfiles() = 1\n"
                + "make(1, 0)\n".repeat(28) + """
                files() = 29
                make(1, 0) = 29
                files() = 30
                make(1, 0) throws IllegalStateException
                files() = 30
                """);
        story("6: the number of files that were made, thrown away or not", """
                make(1, 0) = 0
                throwAway(0) = 40
                files() = 1
                make(1, 0) = 1
                files() = 2
                grow(1) = 1
                move(1) = 2
                files() = 2
                """);
    }

    private void promise7() {
        story("7: the number of free clusters: 40, 1 and 0", """
                free() = 40
                """ + FULL + """
                free() = 0
                throwAway(0) = 8
                make(7, 0) = 5
                free() = 1
                grow(5) = 7
                free() = 0
                """);
        story("7: the number of free clusters, whatever they hold", """
                make(8, 0) = 0
                throwAway(0) = 40
                free() = 40
                make(2, 0) = 1
                free() = 38
                move(1) = 2
                free() = 38
                """);
    }

    private void promise8() {
        story("8: place 0 to 3", """
                make(1, 5) = 0
                number(0, -1) throws IllegalArgumentException
                number(0, 0) = 255
                number(0, 3) = 254
                number(0, 4) throws IllegalArgumentException
                number(0, MIN) throws IllegalArgumentException
                number(0, MAX) throws IllegalArgumentException
                """);
        story("8: a place that would lie in the next cluster", """
                make(2, 5) = 0
                number(1, -1) throws IllegalArgumentException
                number(0, 5) throws IllegalArgumentException
                number(39, 4) throws IllegalArgumentException
                """);
        story("8: throws if there is no such cluster", """
                number(-1, 0) throws IndexOutOfBoundsException
                number(-1, 3) throws IndexOutOfBoundsException
                number(0, 0) = 0
                number(39, 3) = 0
                number(40, 0) throws IndexOutOfBoundsException
                number(MIN, 0) throws IndexOutOfBoundsException
                number(MAX, 3) throws IndexOutOfBoundsException
                number(1073741824, 0) throws IndexOutOfBoundsException
                """);
        story("8: IndexOutOfBoundsException is listed ahead of IllegalArgumentException", """
                number(-1, 4) throws IndexOutOfBoundsException
                number(40, -1) throws IndexOutOfBoundsException
                """);
        story("8: a number of the last cluster", FULL + """
                numbers(39) = 36 73 110 254
                """);
    }

    private void promise9() {
        story("9: the file to which a cluster belongs: the first and the last", THIRTY + """
                fileOf(0) = 0
                fileOf(29) = 29
                fileOf(30) = -1
                """);
        story("9: NONE if it is free: never taken, left and thrown away", """
                fileOf(0) = -1
                make(1, 0) = 0
                fileOf(0) = 0
                move(0) = 1
                fileOf(0) = -1
                fileOf(1) = 0
                throwAway(0) = 40
                fileOf(1) = -1
                """);
        story("9: throws if there is no such cluster", """
                fileOf(-1) throws IndexOutOfBoundsException
                fileOf(0) = -1
                fileOf(39) = -1
                fileOf(40) throws IndexOutOfBoundsException
                fileOf(MIN) throws IndexOutOfBoundsException
                fileOf(MAX) throws IndexOutOfBoundsException
                """);
    }

    private void promise10() {
        story("10: how many clusters a file has: 1 to 8", """
                make(1, 0) = 0
                make(8, 0) = 1
                clusters(0) = 1
                clusters(1) = 8
                """ + "grow(0)\n".repeat(7) + """
                clusters(0) = 8
                move(0) = 16
                clusters(0) = 8
                """);
        story("10: or had when it was thrown away", """
                make(1, 0) = 0
                make(7, 0) = 1
                grow(1) = 8
                throwAway(0) = 32
                throwAway(1) = 40
                clusters(0) = 1
                clusters(1) = 8
                make(8, 0) = 2
                clusters(0) = 1
                clusters(1) = 8
                """);
        noSuchFile("10", "clusters(", ")");
    }

    private void promise11() {
        story("11: place 0 to the number of its clusters, minus 1: of 1", """
                make(1, 5) = 0
                clusterAt(0, -1) throws IllegalArgumentException
                clusterAt(0, 0) = 0
                clusterAt(0, 1) throws IllegalArgumentException
                clusterAt(0, MIN) throws IllegalArgumentException
                clusterAt(0, MAX) throws IllegalArgumentException
                """);
        story("11: place 0 to the number of its clusters, minus 1: of 8", FULL + """
                clusterAt(4, -1) throws IllegalArgumentException
                clusterAt(4, 0) = 32
                clusterAt(4, 7) = 39
                clusterAt(4, 8) throws IllegalArgumentException
                """);
        story("11: place 0 to the number of its clusters, minus 1, as it has now", """
                make(1, 5) = 0
                clusterAt(0, 1) throws IllegalArgumentException
                grow(0) = 1
                clusterAt(0, 1) = 1
                clusterAt(0, 2) throws IllegalArgumentException
                """);
        noSuchFile("11", "clusterAt(", ", 0)");
        noSuchFile("11", "clusterAt(", ", 8)");
        story("11: throws if it is thrown away", """
                make(2, 5) = 0
                throwAway(0) = 40
                clusterAt(0, 0) throws IllegalStateException
                clusterAt(0, 1) throws IllegalStateException
                """);
        story("11: IllegalArgumentException is listed ahead of IllegalStateException", """
                make(2, 5) = 0
                throwAway(0) = 40
                clusterAt(0, -1) throws IllegalArgumentException
                clusterAt(0, 8) throws IllegalArgumentException
                """);
    }

    private void promise12() {
        story("12: the checksum of a file: of 1 and of 8 clusters", """
                make(1, 0) = 0
                make(8, 111) = 1
                checksum(0) = 1567
                checksum(1) = 7557
                """);
        story("12: the checksum of a file, as it is now", """
                make(1, 5) = 0
                checksum(0) = 1592
                grow(0) = 1
                checksum(0) = 6566
                move(0) = 2
                checksum(0) = 6566
                """);
        story("12: or of the entry of one that is thrown away", """
                make(1, 0) = 0
                throwAway(0) = 40
                checksum(0) = 1567
                make(8, 111) = 1
                checksum(0) = 1567
                throwAway(1) = 40
                make(8, 5) = 2
                checksum(1) = 7557
                """);
        noSuchFile("12", "checksum(", ")");
    }

    private void noSuchFile(String promise, String call, String rest) {
        EdgeRows.noSuchFile(check, promise, call, rest);
    }

    private void story(String sentence, String rows) {
        Story.tell(check, sentence, rows);
    }
}
