/** Promises 1 to 12, told by hand: a method for each promise. */
public final class FilesTest {
    private static final int[] NO_CLUSTERS = {-1, 40, Integer.MIN_VALUE, Integer.MAX_VALUE};

    private final Check check = new Check();

    public static void main(String[] args) {
        FilesTest test = new FilesTest();
        test.promise1();
        test.promise2();
        test.promise2Refusals();
        test.promise3();
        test.promise3Refusals();
        test.promise4();
        test.promise4Refusals();
        test.promise5();
        test.promises6And7();
        test.promise8();
        test.promise9();
        test.promise10();
        test.promise11();
        test.promise12();
        test.check.end();
    }

    private void promise1() {
        GraveyardReader reader = new GraveyardReader();
        check.due("1: files()", 0, () -> reader.files());
        check.due("1: free()", 40, () -> reader.free());
        check.due("1: sure()", 0, () -> reader.sure());
        for (int c = 0; c < 40; c++) {
            int cluster = c;
            check.due("1: fileOf(" + c + ")", -1, () -> reader.fileOf(cluster));
            check.due("1: ownerOf(" + c + ")", -1, () -> reader.ownerOf(cluster));
            numbers("1", reader, cluster, 0, 0, 0, 0);
        }
        check.noSuch("1: clusters(0)", () -> reader.clusters(0));
        GraveyardReader other = new GraveyardReader();
        other.make(3, 5);
        check.due("1: free() of the first", 40, () -> reader.free());
    }

    private void promise2() {
        GraveyardReader reader = new GraveyardReader();
        check.due("2: make(3, 5)", 0, () -> reader.make(3, 5));
        numbers("2", reader, 0, 255, 42, 79, 116);
        numbers("2", reader, 1, 153, 190, 227, 14);
        numbers("2", reader, 2, 51, 88, 125, 254);
        numbers("2", reader, 3, 0, 0, 0, 0);
        check.due("2: make(1, 0)", 1, () -> reader.make(1, 0));
        numbers("2", reader, 3, 255, 37, 74, 254);
        check.due("2: make(1, 10000)", 2, () -> reader.make(1, 10000));
        numbers("2", reader, 4, 255, 37, 74, 254);
        check.due("2: make(1, 249)", 3, () -> reader.make(1, 249));
        numbers("2", reader, 5, 255, 36, 73, 254);
        check.due("2: throwAway(1)", 35, () -> reader.throwAway(1));
        check.due("2: make(2, 1)", 4, () -> reader.make(2, 1));
        chain("2: the lowest free ones", reader, 4, 3, 6);
        numbers("2", reader, 6, 149, 186, 223, 254);
        check.due("2: make(8, 0)", 5, () -> reader.make(8, 0));
        chain("2", reader, 5, 7, 8, 9, 10, 11, 12, 13, 14);
        numbers("2", reader, 14, 36, 73, 110, 254);
    }

    private void promise2Refusals() {
        GraveyardReader reader = new GraveyardReader();
        check.outOfRange("2: make(0, 0)", () -> reader.make(0, 0));
        check.outOfRange("2: make(9, 0)", () -> reader.make(9, 0));
        check.outOfRange("2: make(-1, 0)", () -> reader.make(-1, 0));
        check.outOfRange("2: make(MIN, 0)", () -> reader.make(Integer.MIN_VALUE, 0));
        check.outOfRange("2: make(MAX, 0)", () -> reader.make(Integer.MAX_VALUE, 0));
        check.outOfRange("2: make(1, -1)", () -> reader.make(1, -1));
        check.outOfRange("2: make(1, 10001)", () -> reader.make(1, 10001));
        check.outOfRange("2: make(1, MAX)", () -> reader.make(1, Integer.MAX_VALUE));
        check.due("2: files() after refusals", 0, () -> reader.files());
        check.due("2: free() after refusals", 40, () -> reader.free());
        for (int i = 0; i < 4; i++) {
            reader.make(8, i);
        }
        reader.make(1, 0);
        check.wrongState("2: make(8, 0) with 7 free", () -> reader.make(8, 0));
        check.outOfRange("2: make(9, 0) with 7 free", () -> reader.make(9, 0));
        check.due("2: files() after a refusal", 5, () -> reader.files());
        check.due("2: free() after a refusal", 7, () -> reader.free());
        numbers("2: unwritten", reader, 33, 0, 0, 0, 0);
        check.due("2: make(7, 0) with 7 free", 5, () -> reader.make(7, 0));
        check.wrongState("2: make(1, 0) with none free", () -> reader.make(1, 0));
        GraveyardReader full = new GraveyardReader();
        for (int i = 0; i < 30; i++) {
            int number = i;
            check.due("2: make(1, 7), file " + i, number, () -> full.make(1, 7));
            if (i % 2 == 0) {
                full.throwAway(i);
            }
        }
        check.wrongState("2: make(1, 7) after 30 files", () -> full.make(1, 7));
        check.outOfRange("2: make(0, 7) after 30 files", () -> full.make(0, 7));
        check.outOfRange("2: make(1, -7) after 30 files", () -> full.make(1, -7));
        check.due("2: files() after 30 files", 30, () -> full.files());
    }

    private void promise3() {
        GraveyardReader reader = new GraveyardReader();
        reader.make(1, 5);
        reader.make(1, 100);
        check.due("3: grow(0)", 2, () -> reader.grow(0));
        chain("3", reader, 0, 0, 2);
        numbers("3: the end is undone", reader, 0, 255, 42, 79, 116);
        numbers("3", reader, 2, 153, 190, 227, 254);
        numbers("3: the other stays", reader, 1, 255, 137, 174, 254);
        check.due("3: grow(0) again", 3, () -> reader.grow(0));
        numbers("3", reader, 2, 153, 190, 227, 14);
        numbers("3", reader, 3, 51, 88, 125, 254);
        reader.throwAway(1);
        check.due("3: grow(0) into the lowest", 1, () -> reader.grow(0));
        chain("3", reader, 0, 0, 2, 3, 1);
        numbers("3", reader, 1, 199, 236, 23, 254);
        check.due("3: clusters(0)", 4, () -> reader.clusters(0));
        check.due("3: fileOf(1)", 0, () -> reader.fileOf(1));
        check.due("3: checksum(0) as if made so", sumByRule(4, 5), () -> reader.checksum(0));
    }

    private void promise3Refusals() {
        GraveyardReader reader = new GraveyardReader();
        noSuchFile("3: grow", reader, 0, (file) -> reader.grow(file));
        reader.make(7, 5);
        check.due("3: grow(0) to 8", 7, () -> reader.grow(0));
        check.wrongState("3: grow(0) beyond 8", () -> reader.grow(0));
        check.due("3: clusters(0)", 8, () -> reader.clusters(0));
        check.due("3: free()", 32, () -> reader.free());
        numbers("3: the end stays", reader, 7, 41, 78, 115, 254);
        reader.throwAway(0);
        check.wrongState("3: grow(0), thrown away", () -> reader.grow(0));
        for (int i = 0; i < 5; i++) {
            reader.make(7, i);
        }
        reader.make(4, 6);
        check.due("3: grow(6) into the last", 39, () -> reader.grow(6));
        check.wrongState("3: grow(6), none free", () -> reader.grow(6));
        check.due("3: the end stays", 254, () -> reader.number(39, 3));
        check.due("3: clusters(6)", 5, () -> reader.clusters(6));
        noSuchFile("3: grow", reader, 7, (file) -> reader.grow(file));
    }

    private void promise4() {
        GraveyardReader reader = new GraveyardReader();
        reader.make(2, 5);
        reader.make(1, 9);
        check.due("4: move(0)", 3, () -> reader.move(0));
        chain("4", reader, 0, 3, 4);
        numbers("4: the copy", reader, 3, 255, 42, 79, 116);
        numbers("4: the copy", reader, 4, 153, 190, 227, 254);
        numbers("4: what the old one holds", reader, 0, 255, 42, 79, 116);
        numbers("4: what the old one holds", reader, 1, 153, 190, 227, 254);
        check.due("4: fileOf(0)", -1, () -> reader.fileOf(0));
        check.due("4: fileOf(4)", 0, () -> reader.fileOf(4));
        check.due("4: free()", 37, () -> reader.free());
        reader.grow(1);
        chain("4", reader, 1, 2, 0);
        check.due("4: move(1)", 1, () -> reader.move(1));
        chain("4: in the order of the file", reader, 1, 1, 5);
        numbers("4", reader, 1, 255, 46, 83, 120);
        numbers("4", reader, 5, 157, 194, 231, 254);
        check.due("4: move(1) back", 0, () -> reader.move(1));
        chain("4", reader, 1, 0, 2);
        check.due("4: grow(1)", 1, () -> reader.grow(1));
        numbers("4: grown after it was moved", reader, 2, 157, 194, 231, 18);
        numbers("4: grown after it was moved", reader, 1, 55, 92, 129, 254);
        check.due("4: clusters(1)", 3, () -> reader.clusters(1));
    }

    private void promise4Refusals() {
        GraveyardReader reader = new GraveyardReader();
        noSuchFile("4: move", reader, 0, (file) -> reader.move(file));
        for (int i = 0; i < 4; i++) {
            reader.make(8, i);
        }
        reader.make(4, 4);
        reader.make(1, 5);
        check.wrongState("4: move(4) with 3 free", () -> reader.move(4));
        check.due("4: free()", 3, () -> reader.free());
        chain("4: refused", reader, 4, 32, 33, 34, 35);
        check.due("4: fileOf(37)", -1, () -> reader.fileOf(37));
        check.due("4: move(5) with 3 free", 37, () -> reader.move(5));
        reader.throwAway(5);
        check.wrongState("4: move(5), thrown away", () -> reader.move(5));
        check.due("4: move(4) with 4 free", 36, () -> reader.move(4));
        noSuchFile("4: move", reader, 6, (file) -> reader.move(file));
    }

    private void promise5() {
        GraveyardReader reader = new GraveyardReader();
        noSuchFile("5: throwAway", reader, 0, (file) -> reader.throwAway(file));
        reader.make(3, 5);
        reader.make(2, 9);
        check.due("5: throwAway(0)", 38, () -> reader.throwAway(0));
        numbers("5: what it held", reader, 0, 255, 42, 79, 116);
        numbers("5: what it held", reader, 2, 51, 88, 125, 254);
        check.due("5: fileOf(0)", -1, () -> reader.fileOf(0));
        check.due("5: fileOf(3)", 1, () -> reader.fileOf(3));
        check.wrongState("5: throwAway(0) again", () -> reader.throwAway(0));
        check.due("5: free()", 38, () -> reader.free());
        check.due("5: files()", 2, () -> reader.files());
        check.due("5: throwAway(1)", 40, () -> reader.throwAway(1));
        check.wrongState("5: throwAway(1) again", () -> reader.throwAway(1));
        noSuchFile("5: throwAway", reader, 2, (file) -> reader.throwAway(file));
    }

    private void promises6And7() {
        GraveyardReader reader = new GraveyardReader();
        reader.make(8, 1);
        check.due("6: files()", 1, () -> reader.files());
        check.due("7: free()", 32, () -> reader.free());
        reader.make(2, 1);
        check.due("6: files()", 2, () -> reader.files());
        check.due("7: free()", 30, () -> reader.free());
        reader.grow(1);
        check.due("6: files() after grow", 2, () -> reader.files());
        check.due("7: free() after grow", 29, () -> reader.free());
        reader.move(1);
        check.due("6: files() after move", 2, () -> reader.files());
        check.due("7: free() after move", 29, () -> reader.free());
        reader.throwAway(0);
        check.due("6: files() after throwAway", 2, () -> reader.files());
        check.due("7: free() after throwAway", 37, () -> reader.free());
    }

    private void promise8() {
        GraveyardReader reader = new GraveyardReader();
        reader.make(1, 5);
        numbers("8", reader, 0, 255, 42, 79, 254);
        numbers("8", reader, 39, 0, 0, 0, 0);
        for (int cluster : NO_CLUSTERS) {
            check.noSuch("8: number(" + cluster + ", 0)", () -> reader.number(cluster, 0));
            check.noSuch("8: number(" + cluster + ", 4)", () -> reader.number(cluster, 4));
        }
        check.outOfRange("8: number(0, -1)", () -> reader.number(0, -1));
        check.outOfRange("8: number(0, 4)", () -> reader.number(0, 4));
        check.outOfRange("8: number(39, MAX)", () -> reader.number(39, Integer.MAX_VALUE));
        check.outOfRange("8: number(39, MIN)", () -> reader.number(39, Integer.MIN_VALUE));
    }

    private void promise9() {
        GraveyardReader reader = new GraveyardReader();
        reader.make(1, 5);
        reader.make(2, 5);
        check.due("9: fileOf(0)", 0, () -> reader.fileOf(0));
        check.due("9: fileOf(1)", 1, () -> reader.fileOf(1));
        check.due("9: fileOf(2)", 1, () -> reader.fileOf(2));
        check.due("9: fileOf(3)", GraveyardReader.NONE, () -> reader.fileOf(3));
        check.due("9: fileOf(39)", GraveyardReader.NONE, () -> reader.fileOf(39));
        reader.throwAway(1);
        check.due("9: fileOf(1), thrown away", GraveyardReader.NONE, () -> reader.fileOf(1));
        for (int cluster : NO_CLUSTERS) {
            check.noSuch("9: fileOf(" + cluster + ")", () -> reader.fileOf(cluster));
        }
    }

    private void promise10() {
        GraveyardReader reader = new GraveyardReader();
        noSuchFile("10: clusters", reader, 0, (file) -> reader.clusters(file));
        reader.make(3, 5);
        reader.make(8, 5);
        check.due("10: clusters(0)", 3, () -> reader.clusters(0));
        check.due("10: clusters(1)", 8, () -> reader.clusters(1));
        reader.grow(0);
        check.due("10: clusters(0), grown", 4, () -> reader.clusters(0));
        reader.throwAway(0);
        check.due("10: clusters(0), thrown away", 4, () -> reader.clusters(0));
        reader.make(8, 5);
        check.due("10: clusters(0), written over", 4, () -> reader.clusters(0));
        noSuchFile("10: clusters", reader, 3, (file) -> reader.clusters(file));
    }

    private void promise11() {
        GraveyardReader reader = new GraveyardReader();
        noSuchFile("11: clusterAt(.., 0)", reader, 0, (file) -> reader.clusterAt(file, 0));
        reader.make(1, 5);
        reader.make(2, 6);
        reader.throwAway(0);
        reader.grow(1);
        chain("11", reader, 1, 1, 2, 0);
        check.outOfRange("11: clusterAt(1, -1)", () -> reader.clusterAt(1, -1));
        check.outOfRange("11: clusterAt(1, 3)", () -> reader.clusterAt(1, 3));
        check.outOfRange("11: clusterAt(1, MAX)", () -> reader.clusterAt(1, Integer.MAX_VALUE));
        check.outOfRange("11: clusterAt(1, MIN)", () -> reader.clusterAt(1, Integer.MIN_VALUE));
        check.wrongState("11: clusterAt(0, 0), thrown away", () -> reader.clusterAt(0, 0));
        check.outOfRange("11: clusterAt(0, 1), thrown away", () -> reader.clusterAt(0, 1));
        check.outOfRange("11: clusterAt(0, -1), thrown away", () -> reader.clusterAt(0, -1));
        noSuchFile("11: clusterAt(.., 0)", reader, 2, (file) -> reader.clusterAt(file, 0));
        noSuchFile("11: clusterAt(.., 9)", reader, 2, (file) -> reader.clusterAt(file, 9));
    }

    private void promise12() {
        GraveyardReader reader = new GraveyardReader();
        noSuchFile("12: checksum", reader, 0, (file) -> reader.checksum(file));
        reader.make(3, 5);
        check.due("12: checksum(0)", 435, () -> reader.checksum(0));
        reader.make(1, 0);
        check.due("12: checksum(1)", 1567, () -> reader.checksum(1));
        reader.make(8, 10000);
        check.due("12: checksum(2)", sumByRule(8, 10000), () -> reader.checksum(2));
        reader.move(0);
        check.due("12: checksum(0), moved", 435, () -> reader.checksum(0));
        reader.grow(1);
        check.due("12: checksum(1), grown", sumByRule(2, 0), () -> reader.checksum(1));
        reader.throwAway(0);
        check.due("12: checksum(0), thrown away", 435, () -> reader.checksum(0));
        reader.make(8, 7);
        reader.make(8, 7);
        check.due("12: checksum(0), written over", 435, () -> reader.checksum(0));
        noSuchFile("12: checksum", reader, 5, (file) -> reader.checksum(file));
    }

    /** The checksum of a file, straight from the rule of its numbers. */
    private static int sumByRule(int clusters, int seed) {
        int sum = 0;
        for (int i = 0; i < 4 * clusters; i++) {
            int number = i == 0 ? 255 : i == 4 * clusters - 1 ? 254 : (seed + 37 * i) % 250;
            sum += number * (i + 1);
        }
        return sum % 9973;
    }

    private interface FileCall {
        int answer(int file);
    }

    private void noSuchFile(String call, GraveyardReader reader, int made, FileCall asked) {
        check.due(call + " ahead of the wrong files: files()", made, () -> reader.files());
        for (int file : new int[] {-1, made, 30, Integer.MIN_VALUE, Integer.MAX_VALUE}) {
            check.noSuch(call + ", file " + file, () -> asked.answer(file));
        }
    }

    private void chain(String what, GraveyardReader reader, int file, int... clusters) {
        check.due(what + ": clusters(" + file + ")", clusters.length, () -> reader.clusters(file));
        for (int i = 0; i < clusters.length; i++) {
            int place = i;
            check.due(what + ": clusterAt(" + file + ", " + i + ")", clusters[i], () -> reader.clusterAt(file, place));
        }
    }

    private void numbers(String what, GraveyardReader reader, int cluster, int... numbers) {
        for (int i = 0; i < numbers.length; i++) {
            int place = i;
            check.due(what + ": number(" + cluster + ", " + i + ")", numbers[i], () -> reader.number(cluster, place));
        }
    }
}
