import java.util.ArrayList;
import java.util.Arrays;

/**
 * A small disk whose files are made, grown, moved and thrown away, and a reader
 * of what still lies there of those that were thrown away.
 */
public final class GraveyardReader {
    /** There is none. */
    public static final int NONE = -1;

    private static final int DISK_CLUSTERS = 40;
    private static final int CLUSTER_NUMBERS = 4;
    private static final int MOST_FILES = 30;
    private static final int LONGEST_CHAIN = 8;
    private static final int LONGEST_JOIN = 4;
    private static final int GREATEST_SEED = 10000;
    private static final int SIGNATURE = 255;
    private static final int END_MARK = 254;
    private static final int RULE_STEP = 37;
    private static final int RULE_MODULUS = 250;
    private static final int SUM_MODULUS = 9973;
    private static final int SURE = 3;
    private static final int WHOLE = 2;
    private static final int BEGUN = 1;
    private static final int DOUBTFUL = 0;

    private final Disk disk = new Disk();
    private final ArrayList<DiskFile> made = new ArrayList<DiskFile>();
    private final JoinSearch joins = new JoinSearch();
    // A moved file swaps its chain with this one, so that moving makes no new rows.
    private ClusterRow spareChain = new ClusterRow();
    private int thrownCount = 0;

    /** An empty disk. */
    public GraveyardReader() {
    }

    // ---- files

    /** Makes a file and returns its number. */
    public int make(int clusters, int seed) throws IllegalArgumentException, IllegalStateException {
        if (clusters < 1 || clusters > LONGEST_CHAIN) {
            throw new IllegalArgumentException("a file is made with 1 to 8 clusters");
        }
        if (seed < 0 || seed > GREATEST_SEED) {
            throw new IllegalArgumentException("a seed is 0 to 10000");
        }
        if (made.size() >= MOST_FILES) {
            throw new IllegalStateException("30 files were made");
        }
        if (disk.countFree() < clusters) {
            throw new IllegalStateException("fewer clusters are free");
        }
        int file = made.size();
        DiskFile fresh = new DiskFile(seed);
        made.add(fresh);
        takeClusters(fresh.chain, clusters, file);
        writeByRule(fresh, 0);
        disk.writeAlong(fresh.chain, 0, SIGNATURE);
        disk.writeAlong(fresh.chain, lastPlace(fresh), END_MARK);
        readClaims();
        return file;
    }

    /** Lets a file grow by a cluster and returns the cluster. */
    public int grow(int file) throws IndexOutOfBoundsException, IllegalStateException {
        DiskFile grown = livingFile(file);
        if (grown.chain.size >= LONGEST_CHAIN) {
            throw new IllegalStateException("the file has 8 clusters");
        }
        if (disk.countFree() < 1) {
            throw new IllegalStateException("no cluster is free");
        }
        int oldEnd = lastPlace(grown);
        takeClusters(grown.chain, 1, file);
        writeByRule(grown, oldEnd);
        disk.writeAlong(grown.chain, lastPlace(grown), END_MARK);
        readClaims();
        return grown.chain.at(grown.chain.size - 1);
    }

    /** Moves a file and returns its first cluster then. */
    public int move(int file) throws IndexOutOfBoundsException, IllegalStateException {
        DiskFile moved = livingFile(file);
        ClusterRow left = moved.chain;
        if (disk.countFree() < left.size) {
            throw new IllegalStateException("fewer clusters are free than the file has");
        }
        ClusterRow entered = spareChain;
        entered.clear();
        takeClusters(entered, left.size, file);
        for (int i = 0; i < left.size * CLUSTER_NUMBERS; i++) {
            disk.writeAlong(entered, i, disk.readAlong(left, i));
        }
        disk.release(left);
        moved.chain = entered;
        spareChain = left;
        readClaims();
        return entered.at(0);
    }

    /** Throws a file away and returns how many clusters are free then. */
    public int throwAway(int file) throws IndexOutOfBoundsException, IllegalStateException {
        DiskFile thrown = livingFile(file);
        thrown.entrySum = disk.sumOf(thrown.chain);
        thrown.thrownAs = thrownCount;
        thrownCount++;
        disk.release(thrown.chain);
        readClaims();
        return disk.countFree();
    }

    /** Returns the number of files that were made. */
    public int files() {
        return made.size();
    }

    /** Returns the number of free clusters. */
    public int free() {
        return disk.countFree();
    }

    /** Returns a number of a cluster. */
    public int number(int cluster, int place) throws IndexOutOfBoundsException, IllegalArgumentException {
        requireCluster(cluster);
        if (place < 0 || place >= CLUSTER_NUMBERS) {
            throw new IllegalArgumentException("a place in a cluster is 0 to 3");
        }
        return disk.read(cluster, place);
    }

    /** Returns the file to which a cluster belongs; NONE if it is free. */
    public int fileOf(int cluster) throws IndexOutOfBoundsException {
        requireCluster(cluster);
        return disk.holderOf(cluster);
    }

    /** Returns how many clusters a file has, or had when it was thrown away. */
    public int clusters(int file) throws IndexOutOfBoundsException {
        return knownFile(file).chain.size;
    }

    /** Returns a cluster of the chain of a file. */
    public int clusterAt(int file, int place)
            throws IndexOutOfBoundsException, IllegalArgumentException, IllegalStateException {
        DiskFile asked = knownFile(file);
        requirePlaceInChain(asked, place);
        livingFile(file);
        return asked.chain.at(place);
    }

    /** Returns the checksum of a file, or of the entry of one that is thrown away. */
    public int checksum(int file) throws IndexOutOfBoundsException {
        DiskFile asked = knownFile(file);
        return asked.isThrown() ? asked.entrySum : disk.sumOf(asked.chain);
    }

    // ---- thrown-away files

    /** Returns how many clusters the claim of a file has. */
    public int claimed(int file) throws IndexOutOfBoundsException, IllegalStateException {
        return thrownFile(file).claim.size;
    }

    /** Returns a cluster of the claim of a file; NONE if the claim is shorter. */
    public int claimAt(int file, int place)
            throws IndexOutOfBoundsException, IllegalArgumentException, IllegalStateException {
        knownFile(file);
        if (place < 0 || place >= LONGEST_CHAIN) {
            throw new IllegalArgumentException("a place in a claim is 0 to 7");
        }
        return thrownFile(file).claim.at(place);
    }

    /** Returns the confidence of a file. */
    public int confidence(int file) throws IndexOutOfBoundsException, IllegalStateException {
        return thrownFile(file).trust;
    }

    /** Returns the file to whose claim a cluster belongs; NONE if there is none. */
    public int ownerOf(int cluster) throws IndexOutOfBoundsException {
        requireCluster(cluster);
        return strongestClaimant(cluster);
    }

    /** Returns how many clusters of the claim of a file belong to it. */
    public int owned(int file) throws IndexOutOfBoundsException, IllegalStateException {
        ClusterRow claim = thrownFile(file).claim;
        int count = 0;
        for (int i = 0; i < claim.size; i++) {
            if (strongestClaimant(claim.at(i)) == file) {
                count++;
            }
        }
        return count;
    }

    /** Returns the number of thrown-away files of the confidence 3. */
    public int sure() {
        int count = 0;
        for (int i = 0; i < made.size(); i++) {
            DiskFile each = made.get(i);
            if (each.isThrown() && each.trust == SURE) {
                count++;
            }
        }
        return count;
    }

    /** Tells whether there is a join of a file; false if it had more than 4 clusters. */
    public boolean hasJoin(int file) throws IndexOutOfBoundsException, IllegalStateException {
        return joins.find(disk, thrownFile(file));
    }

    /** Returns a cluster of the join of a file that is told. */
    public int joinAt(int file, int place)
            throws IndexOutOfBoundsException, IllegalArgumentException, IllegalStateException {
        requirePlaceInChain(knownFile(file), place);
        if (!joins.find(disk, thrownFile(file))) {
            throw new IllegalStateException("the file has no join");
        }
        return joins.clusterFoundAt(place);
    }

    // ---- what the calls share

    private DiskFile knownFile(int file) {
        if (file < 0 || file >= made.size()) {
            throw new IndexOutOfBoundsException("there is no such file");
        }
        return made.get(file);
    }

    private DiskFile livingFile(int file) {
        DiskFile known = knownFile(file);
        if (known.isThrown()) {
            throw new IllegalStateException("the file is thrown away");
        }
        return known;
    }

    private DiskFile thrownFile(int file) {
        DiskFile known = knownFile(file);
        if (!known.isThrown()) {
            throw new IllegalStateException("the file is not thrown away");
        }
        return known;
    }

    private static void requireCluster(int cluster) {
        if (cluster < 0 || cluster >= DISK_CLUSTERS) {
            throw new IndexOutOfBoundsException("there is no such cluster");
        }
    }

    private static void requirePlaceInChain(DiskFile file, int place) {
        if (place < 0 || place >= file.chain.size) {
            throw new IllegalArgumentException("a place in a chain is 0 to the number of its clusters, minus 1");
        }
    }

    private static int lastPlace(DiskFile file) {
        return file.chain.size * CLUSTER_NUMBERS - 1;
    }

    private void takeClusters(ClusterRow row, int count, int file) {
        for (int i = 0; i < count; i++) {
            row.add(disk.takeLowest(file));
        }
    }

    private void writeByRule(DiskFile file, int from) {
        for (int i = from; i <= lastPlace(file); i++) {
            disk.writeAlong(file.chain, i, file.numberByRule(i));
        }
    }

    // Claims hang on nothing but the disk, so they are read once after each change of it.
    private void readClaims() {
        for (int i = 0; i < made.size(); i++) {
            DiskFile each = made.get(i);
            if (each.isThrown()) {
                readClaim(each);
            }
        }
    }

    private void readClaim(DiskFile file) {
        int first = file.chain.at(0);
        int wanted = file.chain.size;
        file.claim.clear();
        if (disk.isFree(first)) {
            for (int c = first; c < DISK_CLUSTERS && file.claim.size < wanted; c++) {
                if (disk.isFree(c)) {
                    file.claim.add(c);
                }
            }
        }
        file.trust = trustIn(file);
    }

    private int trustIn(DiskFile file) {
        ClusterRow claim = file.claim;
        if (claim.size == 0) {
            return DOUBTFUL;
        }
        boolean full = claim.size == file.chain.size;
        if (full && disk.sumOf(claim) == file.entrySum) {
            return SURE;
        }
        if (disk.readAlong(claim, 0) != SIGNATURE) {
            return DOUBTFUL;
        }
        boolean ended = disk.readAlong(claim, claim.size * CLUSTER_NUMBERS - 1) == END_MARK;
        return full && ended ? WHOLE : BEGUN;
    }

    private int strongestClaimant(int cluster) {
        int strongest = NONE;
        int trust = DOUBTFUL;
        int thrownAs = NONE;
        for (int i = 0; i < made.size(); i++) {
            DiskFile each = made.get(i);
            if (each.isThrown() && each.trust > DOUBTFUL && each.claim.holds(cluster)) {
                if (each.trust > trust || each.trust == trust && each.thrownAs > thrownAs) {
                    strongest = i;
                    trust = each.trust;
                    thrownAs = each.thrownAs;
                }
            }
        }
        return strongest;
    }

    /** Some clusters in an order: a chain or a claim. */
    private static final class ClusterRow {
        private final int[] row = new int[LONGEST_CHAIN];
        private int size = 0;

        void clear() {
            size = 0;
        }

        void add(int cluster) {
            if (size >= 0 && size < row.length) {
                row[size] = cluster;
                size++;
            }
        }

        int at(int place) {
            return place >= 0 && place < size && place < row.length ? row[place] : NONE;
        }

        boolean holds(int cluster) {
            for (int i = 0; i < size; i++) {
                if (at(i) == cluster) {
                    return true;
                }
            }
            return false;
        }
    }

    /** A file, or its entry once it is thrown away: then its chain stays as it was. */
    private static final class DiskFile {
        private final int seed;
        private ClusterRow chain = new ClusterRow();
        private int entrySum = 0;
        private int thrownAs = NONE;
        private final ClusterRow claim = new ClusterRow();
        private int trust = DOUBTFUL;

        DiskFile(int seed) {
            this.seed = seed;
        }

        boolean isThrown() {
            return thrownAs != NONE;
        }

        int numberByRule(int i) {
            return (seed + RULE_STEP * i) % RULE_MODULUS;
        }
    }

    /** The clusters with their numbers, and who holds them. */
    private static final class Disk {
        private final int[] numbers = new int[DISK_CLUSTERS * CLUSTER_NUMBERS];
        private final int[] holders = new int[DISK_CLUSTERS];

        Disk() {
            Arrays.fill(holders, NONE);
        }

        boolean isFree(int cluster) {
            return cluster >= 0 && cluster < holders.length && holders[cluster] == NONE;
        }

        int holderOf(int cluster) {
            return cluster >= 0 && cluster < holders.length ? holders[cluster] : NONE;
        }

        int countFree() {
            int count = 0;
            for (int c = 0; c < holders.length; c++) {
                if (holders[c] == NONE) {
                    count++;
                }
            }
            return count;
        }

        int takeLowest(int file) {
            for (int c = 0; c < holders.length; c++) {
                if (holders[c] == NONE) {
                    holders[c] = file;
                    return c;
                }
            }
            return NONE;
        }

        void release(ClusterRow row) {
            for (int i = 0; i < row.size; i++) {
                int cluster = row.at(i);
                if (cluster >= 0 && cluster < holders.length) {
                    holders[cluster] = NONE;
                }
            }
        }

        int read(int cluster, int place) {
            int at = cluster * CLUSTER_NUMBERS + place;
            return at >= 0 && at < numbers.length ? numbers[at] : 0;
        }

        int readAlong(ClusterRow row, int i) {
            return read(row.at(i / CLUSTER_NUMBERS), i % CLUSTER_NUMBERS);
        }

        void writeAlong(ClusterRow row, int i, int number) {
            int at = row.at(i / CLUSTER_NUMBERS) * CLUSTER_NUMBERS + i % CLUSTER_NUMBERS;
            if (at >= 0 && at < numbers.length) {
                numbers[at] = number;
            }
        }

        int sumOf(ClusterRow row) {
            int sum = 0;
            for (int i = 0; i < row.size * CLUSTER_NUMBERS; i++) {
                sum += readAlong(row, i) * (i + 1);
            }
            return sum % SUM_MODULUS;
        }
    }

    /** Looks for the first row of free clusters that joins to what an entry tells. */
    private static final class JoinSearch {
        // A cluster at the place p of a row adds weighed + 4 * p * plain to the checksum,
        // so a row is summed up without reading its numbers again.
        private final int[] plain = new int[DISK_CLUSTERS];
        private final int[] weighed = new int[DISK_CLUSTERS];
        private final boolean[] open = new boolean[DISK_CLUSTERS];
        private final boolean[] ends = new boolean[DISK_CLUSTERS];
        private final int[] found = new int[LONGEST_JOIN];
        private int length = 0;
        private int first = NONE;
        private int wantedSum = 0;

        boolean find(Disk disk, DiskFile file) {
            length = file.chain.size;
            first = file.chain.at(0);
            wantedSum = file.entrySum;
            if (length > LONGEST_JOIN || !disk.isFree(first)) {
                return false;
            }
            for (int c = 0; c < DISK_CLUSTERS; c++) {
                weigh(disk, c);
            }
            return fill(0, 0);
        }

        int clusterFoundAt(int place) {
            return place >= 0 && place < found.length ? found[place] : NONE;
        }

        private void weigh(Disk disk, int c) {
            int sum = 0;
            int inOrder = 0;
            for (int i = 0; i < CLUSTER_NUMBERS; i++) {
                int number = disk.read(c, i);
                sum += number;
                inOrder += number * (i + 1);
            }
            if (c >= 0 && c < DISK_CLUSTERS) {
                plain[c] = sum;
                weighed[c] = inOrder;
                open[c] = disk.isFree(c);
                ends[c] = disk.read(c, CLUSTER_NUMBERS - 1) == END_MARK;
            }
        }

        // Rising numbers at every place: the first row that joins is the one to be told.
        private boolean fill(int place, int sum) {
            if (place < 0 || place >= LONGEST_JOIN || place >= length) {
                return false;
            }
            boolean last = place == length - 1;
            for (int c = 0; c < DISK_CLUSTERS; c++) {
                if (!open[c] || place == 0 && c != first || last && !ends[c]) {
                    continue;
                }
                found[place] = c;
                int sumSoFar = sum + weighed[c] + CLUSTER_NUMBERS * place * plain[c];
                if (last ? sumSoFar % SUM_MODULUS == wantedSum : goesOn(place, c, sumSoFar)) {
                    return true;
                }
            }
            return false;
        }

        // A cluster stands in a row once: it is not open to the places behind it.
        private boolean goesOn(int place, int c, int sum) {
            if (c < 0 || c >= DISK_CLUSTERS) {
                return false;
            }
            open[c] = false;
            boolean joined = fill(place + 1, sum);
            open[c] = true;
            return joined;
        }
    }
}
