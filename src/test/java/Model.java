import java.util.ArrayList;
import java.util.List;

/** The document once more, as plainly as it can be said; every answer is worked out when it is asked for. */
final class Model {
    static final int NO_SUCH = -1001;
    static final int OUT_OF_RANGE = -1002;
    static final int WRONG_STATE = -1003;

    static final class Entry {
        int seed;
        List<Integer> chain = new ArrayList<>();
        boolean thrown;
        int firstThen;
        int countThen;
        int sumThen;
    }

    final int[][] disk = new int[40][4];
    final List<Entry> entries = new ArrayList<>();
    final List<Integer> thrownInOrder = new ArrayList<>();

    int make(int clusters, int seed) {
        if (clusters < 1 || clusters > 8 || seed < 0 || seed > 10000) {
            return OUT_OF_RANGE;
        }
        if (free() < clusters || entries.size() == 30) {
            return WRONG_STATE;
        }
        Entry entry = new Entry();
        entry.seed = seed;
        entries.add(entry);
        for (int n = 0; n < clusters; n++) {
            entry.chain.add(lowestFree());
        }
        for (int i = 0; i < 4 * clusters; i++) {
            set(entry.chain, i, (seed + 37 * i) % 250);
        }
        set(entry.chain, 0, 255);
        set(entry.chain, 4 * clusters - 1, 254);
        return entries.size() - 1;
    }

    int grow(int file) {
        if (!known(file)) {
            return NO_SUCH;
        }
        Entry entry = entries.get(file);
        if (entry.thrown || entry.chain.size() == 8 || free() == 0) {
            return WRONG_STATE;
        }
        int before = 4 * entry.chain.size();
        set(entry.chain, before - 1, (entry.seed + 37 * (before - 1)) % 250);
        int taken = lowestFree();
        entry.chain.add(taken);
        for (int i = before; i < before + 4; i++) {
            set(entry.chain, i, (entry.seed + 37 * i) % 250);
        }
        set(entry.chain, before + 3, 254);
        return taken;
    }

    int move(int file) {
        if (!known(file)) {
            return NO_SUCH;
        }
        Entry entry = entries.get(file);
        if (entry.thrown || free() < entry.chain.size()) {
            return WRONG_STATE;
        }
        List<Integer> target = new ArrayList<>();
        for (int c = 0; c < 40 && target.size() < entry.chain.size(); c++) {
            if (fileOf(c) == -1) {
                target.add(c);
            }
        }
        for (int n = 0; n < target.size(); n++) {
            disk[target.get(n)] = disk[entry.chain.get(n)].clone();
        }
        entry.chain = target;
        return target.get(0);
    }

    int throwAway(int file) {
        if (!known(file)) {
            return NO_SUCH;
        }
        Entry entry = entries.get(file);
        if (entry.thrown) {
            return WRONG_STATE;
        }
        entry.thrown = true;
        entry.firstThen = entry.chain.get(0);
        entry.countThen = entry.chain.size();
        entry.sumThen = sum(numbers(entry.chain));
        entry.chain = new ArrayList<>();
        thrownInOrder.add(file);
        return free();
    }

    int files() {
        return entries.size();
    }

    int free() {
        int free = 0;
        for (int c = 0; c < 40; c++) {
            free += fileOf(c) == -1 ? 1 : 0;
        }
        return free;
    }

    int number(int cluster, int place) {
        if (cluster < 0 || cluster > 39) {
            return NO_SUCH;
        }
        return place < 0 || place > 3 ? OUT_OF_RANGE : disk[cluster][place];
    }

    int fileOf(int cluster) {
        if (cluster < 0 || cluster > 39) {
            return NO_SUCH;
        }
        for (int file = 0; file < entries.size(); file++) {
            if (entries.get(file).chain.contains(cluster)) {
                return file;
            }
        }
        return -1;
    }

    int clusters(int file) {
        if (!known(file)) {
            return NO_SUCH;
        }
        Entry entry = entries.get(file);
        return entry.thrown ? entry.countThen : entry.chain.size();
    }

    int clusterAt(int file, int place) {
        if (!known(file)) {
            return NO_SUCH;
        }
        if (place < 0 || place >= clusters(file)) {
            return OUT_OF_RANGE;
        }
        return entries.get(file).thrown ? WRONG_STATE : entries.get(file).chain.get(place);
    }

    int checksum(int file) {
        if (!known(file)) {
            return NO_SUCH;
        }
        Entry entry = entries.get(file);
        return entry.thrown ? entry.sumThen : sum(numbers(entry.chain));
    }

    int claimed(int file) {
        int refusal = refusalOfLiving(file);
        return refusal != 0 ? refusal : claim(file).size();
    }

    int claimAt(int file, int place) {
        if (!known(file)) {
            return NO_SUCH;
        }
        if (place < 0 || place > 7) {
            return OUT_OF_RANGE;
        }
        int refusal = refusalOfLiving(file);
        if (refusal != 0) {
            return refusal;
        }
        return place < claim(file).size() ? claim(file).get(place) : -1;
    }

    int confidence(int file) {
        int refusal = refusalOfLiving(file);
        if (refusal != 0) {
            return refusal;
        }
        Entry entry = entries.get(file);
        List<Integer> claim = claim(file);
        if (claim.isEmpty()) {
            return 0;
        }
        int[] numbers = numbers(claim);
        boolean whole = claim.size() == entry.countThen;
        if (whole && sum(numbers) == entry.sumThen) {
            return 3;
        }
        if (numbers[0] == 255 && whole && numbers[numbers.length - 1] == 254) {
            return 2;
        }
        return numbers[0] == 255 ? 1 : 0;
    }

    int ownerOf(int cluster) {
        if (cluster < 0 || cluster > 39) {
            return NO_SUCH;
        }
        for (int trust = 3; trust >= 1; trust--) {
            for (int n = thrownInOrder.size() - 1; n >= 0; n--) {
                int file = thrownInOrder.get(n);
                if (confidence(file) == trust && claim(file).contains(cluster)) {
                    return file;
                }
            }
        }
        return -1;
    }

    int owned(int file) {
        int refusal = refusalOfLiving(file);
        if (refusal != 0) {
            return refusal;
        }
        int owned = 0;
        for (int cluster : claim(file)) {
            owned += ownerOf(cluster) == file ? 1 : 0;
        }
        return owned;
    }

    int sure() {
        int sure = 0;
        for (int file : thrownInOrder) {
            sure += confidence(file) == 3 ? 1 : 0;
        }
        return sure;
    }

    int hasJoin(int file) {
        int refusal = refusalOfLiving(file);
        return refusal != 0 ? refusal : join(file, true) == null ? 0 : 1;
    }

    int joinAt(int file, int place) {
        if (!known(file)) {
            return NO_SUCH;
        }
        if (place < 0 || place >= clusters(file)) {
            return OUT_OF_RANGE;
        }
        int refusal = refusalOfLiving(file);
        if (refusal != 0) {
            return refusal;
        }
        List<Integer> join = join(file, true);
        return join == null ? WRONG_STATE : join.get(place);
    }

    List<Integer> claim(int file) {
        Entry entry = entries.get(file);
        List<Integer> claim = new ArrayList<>();
        for (int c = entry.firstThen; c < 40 && fileOf(entry.firstThen) == -1; c++) {
            if (claim.size() < entry.countThen && fileOf(c) == -1) {
                claim.add(c);
            }
        }
        return claim;
    }

    /** Every row in the order in which rows are compared; null if none of them joins. */
    List<Integer> join(int file, boolean withEndMark) {
        Entry entry = entries.get(file);
        if (entry.countThen > 4 || fileOf(entry.firstThen) != -1) {
            return null;
        }
        List<Integer> free = new ArrayList<>();
        for (int c = 0; c < 40; c++) {
            if (fileOf(c) == -1) {
                free.add(c);
            }
        }
        List<Integer> row = new ArrayList<>();
        row.add(entry.firstThen);
        return extended(row, free, entry, withEndMark);
    }

    private List<Integer> extended(List<Integer> row, List<Integer> free, Entry entry, boolean withEndMark) {
        if (row.size() == entry.countThen) {
            int[] numbers = numbers(row);
            boolean ends = numbers[numbers.length - 1] == 254;
            return sum(numbers) == entry.sumThen && (ends || !withEndMark) ? new ArrayList<>(row) : null;
        }
        for (int cluster : free) {
            if (!row.contains(cluster)) {
                row.add(cluster);
                List<Integer> join = extended(row, free, entry, withEndMark);
                if (join != null) {
                    return join;
                }
                row.remove(row.size() - 1);
            }
        }
        return null;
    }

    private boolean known(int file) {
        return file >= 0 && file < entries.size();
    }

    private int refusalOfLiving(int file) {
        return !known(file) ? NO_SUCH : entries.get(file).thrown ? 0 : WRONG_STATE;
    }

    private int lowestFree() {
        for (int c = 0; c < 40; c++) {
            if (fileOf(c) == -1) {
                return c;
            }
        }
        throw new AssertionError("none is free");
    }

    private void set(List<Integer> chain, int i, int number) {
        disk[chain.get(i / 4)][i % 4] = number;
    }

    private int[] numbers(List<Integer> row) {
        int[] numbers = new int[4 * row.size()];
        for (int i = 0; i < numbers.length; i++) {
            numbers[i] = disk[row.get(i / 4)][i % 4];
        }
        return numbers;
    }

    private static int sum(int[] numbers) {
        long sum = 0;
        for (int i = 0; i < numbers.length; i++) {
            sum += (long) numbers[i] * (i + 1);
        }
        return (int) (sum % 9973);
    }
}
