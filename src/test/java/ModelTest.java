/**
 * Long runs of calls, each answer compared with the model's; after every few
 * calls the whole of what can be asked is compared, so that a refused call that
 * changed something would show.
 */
public final class ModelTest {
    private static final int RUNS = 240;
    private static final int CALLS = 512;
    private static final int[] ODD = {-1, -2, 40, 41, 30, 8, 9, Integer.MIN_VALUE, Integer.MAX_VALUE};

    private final Check check = new Check();
    private GraveyardReader reader;
    private Model model;
    private int calls;
    private String run = "";
    private long dice;

    public static void main(String[] args) {
        ModelTest test = new ModelTest();
        for (int run = 0; run < RUNS; run++) {
            test.run(run);
        }
        test.check.end();
    }

    private void run(int number) {
        reader = new GraveyardReader();
        model = new Model();
        calls = 0;
        dice = number * 7919L + 17;
        int changes = 0;
        while (calls < CALLS) {
            run = "run " + number + ", call " + calls + ": ";
            change(number % 6);
            changes++;
            if (changes % 5 == 0) {
                askSome();
            }
            if (changes % 29 == 0) {
                askAll();
            }
        }
    }

    /** The same numbers in every session: no chance is used. */
    private int roll(int sides) {
        dice = dice * 6364136223846793005L + 1442695040888963407L;
        return (int) ((dice >>> 33) % sides);
    }

    private int anyFile() {
        if (roll(25) == 0) {
            return ODD[roll(ODD.length)];
        }
        return model.files() == 0 ? roll(3) : roll(model.files() + (roll(12) == 0 ? 1 : 0));
    }

    private int anyCluster() {
        return roll(25) == 0 ? ODD[roll(ODD.length)] : roll(40);
    }

    private int anyPlace(int bound) {
        return roll(12) == 0 ? ODD[roll(ODD.length)] : roll(bound);
    }

    private int anySize(int kind) {
        if (roll(20) == 0) {
            return roll(2) == 0 ? 0 : 9;
        }
        return kind == 0 ? 1 : kind == 1 ? 1 + roll(2) : kind < 4 ? 1 + roll(4) : 1 + roll(8);
    }

    private int anySeed(int kind) {
        int seed = roll(30);
        return seed == 0 ? -1 : seed == 1 ? 10001 : seed == 2 ? 10000 : kind % 2 == 0 ? roll(3) : roll(10001);
    }

    private void change(int kind) {
        int file = anyFile();
        int what = roll(10);
        if (what < 3) {
            int clusters = anySize(kind);
            int seed = anySeed(kind);
            same("make(" + clusters + ", " + seed + ")", model.make(clusters, seed), () -> reader.make(clusters, seed));
        } else if (what < 5) {
            same("grow(" + file + ")", model.grow(file), () -> reader.grow(file));
        } else if (what < 8) {
            same("move(" + file + ")", model.move(file), () -> reader.move(file));
        } else {
            same("throwAway(" + file + ")", model.throwAway(file), () -> reader.throwAway(file));
        }
    }

    private void askSome() {
        int file = anyFile();
        int cluster = anyCluster();
        int place = anyPlace(8);
        int part = anyPlace(4);
        askFile(file);
        askPlace(file, place);
        askCluster(cluster);
        same("number(" + cluster + ", " + part + ")", model.number(cluster, part), () -> reader.number(cluster, part));
        askJoin(file, part);
    }

    private void askAll() {
        same("files()", model.files(), () -> reader.files());
        same("free()", model.free(), () -> reader.free());
        same("sure()", model.sure(), () -> reader.sure());
        for (int file = 0; file < model.files() && calls < CALLS; file++) {
            askFile(file);
        }
        for (int cluster = roll(4); cluster < 40 && calls < CALLS; cluster += 4) {
            askCluster(cluster);
        }
    }

    private void askFile(int file) {
        same("clusters(" + file + ")", model.clusters(file), () -> reader.clusters(file));
        same("checksum(" + file + ")", model.checksum(file), () -> reader.checksum(file));
        same("claimed(" + file + ")", model.claimed(file), () -> reader.claimed(file));
        same("confidence(" + file + ")", model.confidence(file), () -> reader.confidence(file));
        same("owned(" + file + ")", model.owned(file), () -> reader.owned(file));
    }

    private void askPlace(int file, int place) {
        same("clusterAt(" + file + ", " + place + ")", model.clusterAt(file, place),
                () -> reader.clusterAt(file, place));
        same("claimAt(" + file + ", " + place + ")", model.claimAt(file, place), () -> reader.claimAt(file, place));
    }

    private void askCluster(int cluster) {
        same("fileOf(" + cluster + ")", model.fileOf(cluster), () -> reader.fileOf(cluster));
        same("ownerOf(" + cluster + ")", model.ownerOf(cluster), () -> reader.ownerOf(cluster));
    }

    private void askJoin(int file, int place) {
        same("hasJoin(" + file + ")", model.hasJoin(file), () -> reader.hasJoin(file) ? 1 : 0);
        same("joinAt(" + file + ", " + place + ")", model.joinAt(file, place), () -> reader.joinAt(file, place));
    }

    private void same(String call, int want, Check.Call asked) {
        calls++;
        if (want == Model.NO_SUCH) {
            check.noSuch(run + call, asked);
        } else if (want == Model.OUT_OF_RANGE) {
            check.outOfRange(run + call, asked);
        } else if (want == Model.WRONG_STATE) {
            check.wrongState(run + call, asked);
        } else {
            check.due(run + call, want, asked);
        }
    }
}
