/** Promises 13 to 20, told by hand: a method for each promise or each of its edges. */
public final class GraveyardTest {
    private static final int[] NO_CLUSTERS = {-1, 40, Integer.MIN_VALUE, Integer.MAX_VALUE};

    private final Check check = new Check();

    public static void main(String[] args) {
        GraveyardTest test = new GraveyardTest();
        test.promises13And14();
        test.promises13And14AtTheEndOfTheDisk();
        test.promises13To18AfterEachChange();
        test.promises13And14Refusals();
        test.promise15();
        test.promise15SumBeforeSignature();
        test.promise15ShortClaims();
        test.promise15Refusals();
        test.promise16Greatest();
        test.promise16ThrownAwayLast();
        test.promise16ConfidenceNought();
        test.promise17();
        test.promise18();
        test.promise19();
        test.promise19EndMark();
        test.promise20Different();
        test.promise20();
        test.promise20OfSeveral();
        test.promises19And20Refusals();
        test.check.end();
    }

    private void promises13And14() {
        GraveyardReader reader = new GraveyardReader();
        reader.make(2, 1);
        reader.make(1, 2);
        reader.make(3, 3);
        reader.throwAway(0);
        claim("13, 14", reader, 0, 0, 1);
        reader.throwAway(2);
        claim("13, 14", reader, 2, 3, 4, 5);
        reader.make(1, 4);
        claim("13, 14: first not free", reader, 0);
        claim("13, 14", reader, 2, 3, 4, 5);
        reader.make(2, 5);
        claim("13, 14: first not free", reader, 2);
        reader.throwAway(3);
        claim("13, 14: over taken ones", reader, 0, 0, 4);
        check.due("13: fileOf(1) is taken", 4, () -> reader.fileOf(1));
        reader.move(4);
        claim("13, 14: the moved file took 0 and 4", reader, 0);
        claim("13, 14", reader, 2, 3, 5, 6);
    }

    /** File 5 begins at the last cluster of the disk and goes on at its beginning. */
    private static GraveyardReader withAFileAtTheEnd(int seed, int grown) {
        GraveyardReader reader = new GraveyardReader();
        for (int i = 0; i < 4; i++) {
            reader.make(8, i);
        }
        reader.make(7, 4);
        reader.make(1, seed);
        reader.throwAway(0);
        for (int i = 0; i < grown; i++) {
            reader.grow(5);
        }
        reader.throwAway(5);
        return reader;
    }

    private void promises13And14AtTheEndOfTheDisk() {
        GraveyardReader reader = withAFileAtTheEnd(3, 2);
        claim("13, 14: the disk ends", reader, 5, 39);
        check.due("13: clusters(5)", 3, () -> reader.clusters(5));
        claim("13, 14", reader, 0, 0, 1, 2, 3, 4, 5, 6, 7);
        reader.throwAway(4);
        claim("13, 14: by rising numbers alone", reader, 5, 39);
        claim("13, 14", reader, 4, 32, 33, 34, 35, 36, 37, 38);
        reader.make(7, 0);
        reader.make(2, 0);
        claim("13, 14: the first one taken", reader, 4);
        reader.throwAway(7);
        claim("13, 14", reader, 4, 32, 33, 34, 35, 36, 37, 38);
    }

    /** What is asked of a thrown-away file follows the disk at once. */
    private void promises13To18AfterEachChange() {
        GraveyardReader reader = new GraveyardReader();
        reader.make(2, 1);
        reader.make(1, 2);
        reader.throwAway(0);
        claim("13, 14: after throwAway", reader, 0, 0, 1);
        reader.grow(1);
        claim("13, 14: after grow", reader, 0);
        confidence("15: after grow", reader, 0, 0);
        check.due("16: ownerOf(1) after grow", -1, () -> reader.ownerOf(1));
        check.due("17: owned(0) after grow", 0, () -> reader.owned(0));
        check.due("18: sure() after grow", 0, () -> reader.sure());
        reader.move(1);
        claim("13, 14: after move to 1, 3", reader, 0, 0, 2);
        reader.move(1);
        claim("13, 14: after move to 0, 2", reader, 0);
        reader.move(1);
        reader.make(1, 3);
        reader.move(1);
        claim("13, 14: after make and move", reader, 0);
        reader.throwAway(2);
        claim("13, 14: after throwAway", reader, 0, 0, 1);
        confidence("15: after throwAway", reader, 0, 1);
    }

    private void promises13And14Refusals() {
        GraveyardReader reader = new GraveyardReader();
        reader.make(2, 1);
        noSuchFile("13: claimed", 1, (file) -> reader.claimed(file));
        noSuchFile("14: claimAt(.., 0)", 1, (file) -> reader.claimAt(file, 0));
        noSuchFile("14: claimAt(.., 8)", 1, (file) -> reader.claimAt(file, 8));
        check.wrongState("13: claimed(0)", () -> reader.claimed(0));
        check.wrongState("14: claimAt(0, 0)", () -> reader.claimAt(0, 0));
        check.wrongState("14: claimAt(0, 7)", () -> reader.claimAt(0, 7));
        check.outOfRange("14: claimAt(0, 8)", () -> reader.claimAt(0, 8));
        check.outOfRange("14: claimAt(0, -1)", () -> reader.claimAt(0, -1));
        reader.throwAway(0);
        check.due("14: claimAt(0, 7)", -1, () -> reader.claimAt(0, 7));
        check.outOfRange("14: claimAt(0, 8), thrown away", () -> reader.claimAt(0, 8));
        check.outOfRange("14: claimAt(0, -1), thrown away", () -> reader.claimAt(0, -1));
        check.outOfRange("14: claimAt(0, MIN)", () -> reader.claimAt(0, Integer.MIN_VALUE));
        check.outOfRange("14: claimAt(0, MAX)", () -> reader.claimAt(0, Integer.MAX_VALUE));
    }

    private void promise15() {
        GraveyardReader reader = new GraveyardReader();
        reader.make(2, 1);
        reader.make(3, 2);
        reader.throwAway(0);
        confidence("15: as it was", reader, 0, 3);
        reader.make(1, 9);
        confidence("15: empty claim", reader, 0, 0);
        reader.throwAway(2);
        confidence("15: begins, but does not end as it should", reader, 0, 2);
        confidence("15", reader, 2, 3);
        reader.make(1, 9);
        reader.grow(3);
        reader.grow(3);
        reader.throwAway(3);
        confidence("15: begins only", reader, 0, 1);
        confidence("15: begins, written over", reader, 2, 1);
        confidence("15: chain 0, 1, 5 over taken ones", reader, 3, 3);
        reader.throwAway(1);
        confidence("15: a claim that is not the chain", reader, 3, 1);
        confidence("15", reader, 1, 3);
        GraveyardReader other = new GraveyardReader();
        other.make(1, 1);
        other.make(1, 2);
        other.throwAway(0);
        other.grow(1);
        other.throwAway(1);
        confidence("15: does not begin", other, 0, 0);
        check.due("15: the claim is not empty", 1, () -> other.claimed(0));
        confidence("15: a chain that falls", other, 1, 1);
    }

    /** Cluster 0 does not begin with 255 any more, but its checksum is by chance the entry's. */
    private void promise15SumBeforeSignature() {
        GraveyardReader reader = new GraveyardReader();
        reader.make(1, 3);
        reader.make(1, 147);
        reader.throwAway(0);
        reader.grow(1);
        reader.throwAway(1);
        check.due("15: number(0, 0)", 45, () -> reader.number(0, 0));
        check.due("15: checksum(0)", 1582, () -> reader.checksum(0));
        confidence("15: the checksum alone", reader, 0, 3);
        check.due("15: sure()", 1, () -> reader.sure());
        check.due("15: ownerOf(0)", 0, () -> reader.ownerOf(0));
    }

    private void promise15ShortClaims() {
        GraveyardReader reader = withAFileAtTheEnd(3, 1);
        confidence("15: short, begins", reader, 5, 1);
        reader.make(8, 0);
        reader.make(1, 7);
        confidence("15: taken", reader, 5, 0);
        reader.throwAway(7);
        check.due("15: number(39, 0)", 255, () -> reader.number(39, 0));
        check.due("15: number(39, 3)", 254, () -> reader.number(39, 3));
        confidence("15: short, begins and ends", reader, 5, 1);
        // 39 holds 255, 109 + 37, 109 + 74, 254 then: their checksum is by chance that of the 8 clusters.
        GraveyardReader chance = withAFileAtTheEnd(0, 7);
        chance.make(8, 0);
        chance.make(1, 109);
        chance.throwAway(7);
        check.due("15: checksum(5)", 2112, () -> chance.checksum(5));
        check.due("15: checksum(7)", 2112, () -> chance.checksum(7));
        confidence("15: short, with the checksum", chance, 5, 1);
        confidence("15", chance, 7, 3);
    }

    private void promise15Refusals() {
        GraveyardReader reader = new GraveyardReader();
        reader.make(2, 1);
        noSuchFile("15: confidence", 1, (file) -> reader.confidence(file));
        check.wrongState("15: confidence(0)", () -> reader.confidence(0));
    }

    private void promise16Greatest() {
        GraveyardReader reader = new GraveyardReader();
        reader.make(3, 5);
        reader.throwAway(0);
        reader.make(1, 7);
        check.due("16: ownerOf(1), empty claim", -1, () -> reader.ownerOf(1));
        reader.throwAway(1);
        check.due("16: ownerOf(0)", 1, () -> reader.ownerOf(0));
        check.due("16: ownerOf(1)", 0, () -> reader.ownerOf(1));
        check.due("16: ownerOf(2)", 0, () -> reader.ownerOf(2));
        check.due("16: ownerOf(3)", -1, () -> reader.ownerOf(3));
        GraveyardReader other = new GraveyardReader();
        other.make(1, 1);
        other.make(1, 2);
        other.make(2, 3);
        other.throwAway(2);
        other.throwAway(0);
        other.grow(1);
        other.throwAway(1);
        claim("16: thrown away last", other, 1, 1, 2);
        confidence("16: smaller", other, 1, 1);
        confidence("16: greater", other, 2, 3);
        check.due("16: ownerOf(1)", 1, () -> other.ownerOf(1));
        check.due("16: ownerOf(2), not the last one", 2, () -> other.ownerOf(2));
        check.due("16: ownerOf(3)", 2, () -> other.ownerOf(3));
        check.due("17: owned(1)", 1, () -> other.owned(1));
        check.due("17: owned(2)", 2, () -> other.owned(2));
        for (int cluster : NO_CLUSTERS) {
            check.noSuch("16: ownerOf(" + cluster + ")", () -> other.ownerOf(cluster));
        }
        check.due("16: ownerOf(39)", -1, () -> other.ownerOf(39));
    }

    private void promise16ThrownAwayLast() {
        GraveyardReader reader = new GraveyardReader();
        reader.make(1, 5);
        reader.throwAway(0);
        reader.make(1, 5);
        reader.throwAway(1);
        confidence("16", reader, 0, 3);
        confidence("16", reader, 1, 3);
        check.due("16: ownerOf(0), greater number last", 1, () -> reader.ownerOf(0));
        GraveyardReader other = new GraveyardReader();
        other.make(1, 5);
        other.move(0);
        other.make(1, 5);
        other.throwAway(1);
        other.move(0);
        other.throwAway(0);
        confidence("16", other, 0, 3);
        confidence("16", other, 1, 3);
        check.due("16: ownerOf(0), smaller number last", 0, () -> other.ownerOf(0));
        check.due("17: owned(0)", 1, () -> other.owned(0));
        check.due("17: owned(1)", 0, () -> other.owned(1));
        check.due("16: ownerOf(1), in no claim", -1, () -> other.ownerOf(1));
    }

    private void promise16ConfidenceNought() {
        GraveyardReader reader = new GraveyardReader();
        reader.make(1, 1);
        reader.make(1, 2);
        reader.throwAway(0);
        reader.grow(1);
        reader.move(1);
        confidence("16: nought", reader, 0, 0);
        check.due("16: claimed(0)", 1, () -> reader.claimed(0));
        check.due("16: ownerOf(0)", -1, () -> reader.ownerOf(0));
        check.due("17: owned(0)", 0, () -> reader.owned(0));
        GraveyardReader living = new GraveyardReader();
        living.make(2, 1);
        check.due("16: ownerOf(0), held by a file", -1, () -> living.ownerOf(0));
    }

    private void promise17() {
        GraveyardReader reader = new GraveyardReader();
        reader.make(3, 5);
        noSuchFile("17: owned", 1, (file) -> reader.owned(file));
        check.wrongState("17: owned(0)", () -> reader.owned(0));
        reader.throwAway(0);
        check.due("17: owned(0)", 3, () -> reader.owned(0));
        reader.make(1, 7);
        check.due("17: owned(0), empty claim", 0, () -> reader.owned(0));
        reader.throwAway(1);
        check.due("17: owned(0)", 2, () -> reader.owned(0));
        check.due("17: owned(1)", 1, () -> reader.owned(1));
        reader.make(2, 8);
        reader.throwAway(2);
        check.due("17: owned(0)", 1, () -> reader.owned(0));
        check.due("17: owned(1)", 0, () -> reader.owned(1));
        check.due("17: owned(2)", 2, () -> reader.owned(2));
    }

    private void promise18() {
        GraveyardReader reader = new GraveyardReader();
        reader.make(3, 5);
        reader.make(2, 6);
        reader.make(1, 7);
        check.due("18: sure(), none thrown away", 0, () -> reader.sure());
        reader.throwAway(0);
        check.due("18: sure()", 1, () -> reader.sure());
        reader.throwAway(2);
        check.due("18: sure()", 2, () -> reader.sure());
        reader.throwAway(1);
        check.due("18: sure()", 3, () -> reader.sure());
        reader.make(1, 8);
        check.due("18: sure(), one written over", 2, () -> reader.sure());
        reader.throwAway(3);
        confidence("18", reader, 0, 2);
        check.due("18: sure(), one of confidence 2", 3, () -> reader.sure());
    }

    private void promise19() {
        GraveyardReader reader = new GraveyardReader();
        reader.make(4, 5);
        reader.make(5, 6);
        reader.make(1, 7);
        reader.throwAway(0);
        reader.throwAway(1);
        reader.throwAway(2);
        joins("19: of 4", reader, 0, true);
        joins("19: of 5", reader, 1, false);
        confidence("19: though it lies there", reader, 1, 3);
        joins("19: of 1", reader, 2, true);
        reader.make(1, 8);
        joins("19: first one taken", reader, 0, false);
        reader.throwAway(3);
        joins("19: first one written over", reader, 0, false);
        GraveyardReader other = new GraveyardReader();
        other.make(2, 5);
        other.make(2, 6);
        other.throwAway(0);
        other.make(1, 5);
        other.make(1, 5);
        other.throwAway(2);
        joins("19: second one taken", other, 0, false);
        other.throwAway(3);
        joins("19: second one written over", other, 0, false);
        // The one cluster ends with 254 and is free, but its checksum is another one.
        GraveyardReader alone = new GraveyardReader();
        alone.make(1, 5);
        alone.throwAway(0);
        alone.make(1, 6);
        alone.throwAway(1);
        joins("19: another checksum", alone, 0, false);
        joins("19", alone, 1, true);
    }

    /** 24, 12, 19 have the checksum of file 3 by chance, but do not end with 254. */
    private void promise19EndMark() {
        GraveyardReader reader = new GraveyardReader();
        reader.make(8, 1);
        reader.make(8, 0);
        reader.make(8, 9);
        reader.make(3, 4);
        for (int file = 0; file < 4; file++) {
            reader.throwAway(file);
        }
        join("20: with the end mark", reader, 3, 24, 25, 26);
    }

    /** 1, 0, 0 would have the checksum of file 1 by chance, and would end with 254. */
    private void promise20Different() {
        GraveyardReader reader = new GraveyardReader();
        reader.make(1, 231);
        reader.make(3, 15);
        reader.throwAway(0);
        reader.throwAway(1);
        check.due("20: checksum(1)", 1085, () -> reader.checksum(1));
        join("20: different clusters", reader, 1, 1, 2, 3);
    }

    private void promise20() {
        GraveyardReader reader = new GraveyardReader();
        reader.make(1, 1);
        reader.make(1, 2);
        reader.make(1, 3);
        reader.throwAway(1);
        reader.throwAway(0);
        reader.grow(2);
        reader.grow(2);
        reader.grow(2);
        reader.throwAway(2);
        claim("20: the claim", reader, 2, 2, 3, 4, 5);
        confidence("20: the claim misses it", reader, 2, 1);
        join("20: out of order", reader, 2, 2, 0, 1, 3);
        joins("20: does not begin any more", reader, 0, false);
        check.wrongState("20: joinAt(0, 0)", () -> reader.joinAt(0, 0));
        check.outOfRange("20: joinAt(0, 1)", () -> reader.joinAt(0, 1));
    }

    /** File 0 lies there twice, so its first cluster joins with copies of the others. */
    private void promise20OfSeveral() {
        GraveyardReader reader = new GraveyardReader();
        reader.make(3, 5);
        reader.move(0);
        reader.throwAway(0);
        claim("20: the claim", reader, 0, 3, 4, 5);
        join("20: the first of several", reader, 0, 3, 1, 2);
        reader.make(1, 9);
        join("20: the first one is the entry's", reader, 0, 3, 1, 2);
        reader.make(1, 9);
        join("20: free ones alone", reader, 0, 3, 4, 2);
        reader.make(1, 9);
        join("20: free ones alone", reader, 0, 3, 4, 5);
        reader.make(1, 9);
        joins("20: the first one taken", reader, 0, false);
        check.wrongState("20: joinAt(0, 0)", () -> reader.joinAt(0, 0));
    }

    private void promises19And20Refusals() {
        GraveyardReader reader = new GraveyardReader();
        reader.make(2, 5);
        reader.make(5, 6);
        noSuchFile("19: hasJoin", 2, (file) -> reader.hasJoin(file) ? 1 : 0);
        noSuchFile("20: joinAt(.., 0)", 2, (file) -> reader.joinAt(file, 0));
        noSuchFile("20: joinAt(.., 8)", 2, (file) -> reader.joinAt(file, 8));
        check.wrongState("19: hasJoin(0)", () -> reader.hasJoin(0) ? 1 : 0);
        check.wrongState("19: hasJoin(1)", () -> reader.hasJoin(1) ? 1 : 0);
        check.wrongState("20: joinAt(0, 1)", () -> reader.joinAt(0, 1));
        check.outOfRange("20: joinAt(0, 2)", () -> reader.joinAt(0, 2));
        check.outOfRange("20: joinAt(0, -1)", () -> reader.joinAt(0, -1));
        reader.throwAway(0);
        reader.throwAway(1);
        check.due("20: joinAt(0, 1)", 1, () -> reader.joinAt(0, 1));
        check.outOfRange("20: joinAt(0, 2), thrown away", () -> reader.joinAt(0, 2));
        check.outOfRange("20: joinAt(0, MAX)", () -> reader.joinAt(0, Integer.MAX_VALUE));
        check.outOfRange("20: joinAt(0, MIN)", () -> reader.joinAt(0, Integer.MIN_VALUE));
        check.wrongState("20: joinAt(1, 0), more than 4", () -> reader.joinAt(1, 0));
        check.wrongState("20: joinAt(1, 4), more than 4", () -> reader.joinAt(1, 4));
        check.outOfRange("20: joinAt(1, 5), more than 4", () -> reader.joinAt(1, 5));
    }

    private interface FileCall {
        int answer(int file);
    }

    private void noSuchFile(String call, int made, FileCall asked) {
        for (int file : new int[] {-1, made, 30, Integer.MIN_VALUE, Integer.MAX_VALUE}) {
            check.noSuch(call + ", file " + file, () -> asked.answer(file));
        }
    }

    private void confidence(String what, GraveyardReader reader, int file, int want) {
        check.due(what + ": confidence(" + file + ")", want, () -> reader.confidence(file));
    }

    private void claim(String what, GraveyardReader reader, int file, int... clusters) {
        check.due(what + ": claimed(" + file + ")", clusters.length, () -> reader.claimed(file));
        for (int i = 0; i < 8; i++) {
            int place = i;
            int want = i < clusters.length ? clusters[i] : -1;
            check.due(what + ": claimAt(" + file + ", " + i + ")", want, () -> reader.claimAt(file, place));
        }
    }

    private void joins(String what, GraveyardReader reader, int file, boolean want) {
        check.due(what + ": hasJoin(" + file + ")", want ? 1 : 0, () -> reader.hasJoin(file) ? 1 : 0);
    }

    private void join(String what, GraveyardReader reader, int file, int... clusters) {
        joins(what, reader, file, true);
        for (int i = 0; i < clusters.length; i++) {
            int place = i;
            check.due(what + ": joinAt(" + file + ", " + i + ")", clusters[i], () -> reader.joinAt(file, place));
        }
    }
}
