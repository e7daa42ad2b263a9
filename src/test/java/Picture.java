import java.util.ArrayList;
import java.util.List;

/**
 * All that can be asked of an object after some calls, and again after further
 * calls. What is asked is spread over many new objects with the same calls behind
 * them, since an object is used for at most 512 calls.
 */
final class Picture {
    private static final int CALLS_FOR_QUERIES = 300;
    private static final String[] OF_A_FILE = {"clusters", "checksum", "claimed", "confidence", "owned", "hasJoin"};

    private Picture() {
    }

    /** The picture after the calls, and after one more that is refused, if there is one. */
    static List<String> of(List<String> calls, String refused) {
        int files = 0;
        for (String call : calls) {
            files += call.startsWith("make(") ? 1 : 0;
        }
        List<String> before = new ArrayList<>(calls);
        if (refused != null) {
            before.add(refused);
        }
        List<String> picture = new ArrayList<>();
        ask(picture, before, List.of(), queries(files));
        ask(picture, before, further(files), queries(files + 1));
        return picture;
    }

    /** The first answer that is another one, or "nothing". */
    static String difference(List<String> want, List<String> got) {
        for (int i = 0; i < want.size() && i < got.size(); i++) {
            if (!want.get(i).equals(got.get(i))) {
                return want.get(i) + " became " + got.get(i);
            }
        }
        return want.size() == got.size() ? "nothing" : "the number of answers";
    }

    private static void ask(List<String> picture, List<String> before, List<String> further, List<String> queries) {
        for (int from = 0; from < queries.size(); from += CALLS_FOR_QUERIES) {
            GraveyardReader reader = new GraveyardReader();
            for (String call : before) {
                Calls.answer(reader, call);
            }
            for (String call : further) {
                picture.add(call + " = " + Calls.answer(reader, call));
            }
            int to = Math.min(queries.size(), from + CALLS_FOR_QUERIES);
            for (String call : queries.subList(from, to)) {
                picture.add(call + " = " + Calls.answer(reader, call));
            }
        }
    }

    // Touches what can't be asked at once: seeds, the order in which files are thrown away.
    private static List<String> further(int files) {
        List<String> calls = new ArrayList<>();
        for (int file = 0; file < files; file++) {
            calls.add("grow(" + file + ")");
            calls.add("move(" + file + ")");
        }
        calls.add("make(2, 9)");
        for (int file = files; file >= 0; file--) {
            calls.add("throwAway(" + file + ")");
        }
        return calls;
    }

    private static List<String> queries(int files) {
        List<String> calls = new ArrayList<>(List.of("files()", "free()", "sure()"));
        for (int cluster = 0; cluster < 40; cluster++) {
            calls.add("fileOf(" + cluster + ")");
            calls.add("ownerOf(" + cluster + ")");
            places(calls, "number", cluster, 4);
        }
        for (int file = 0; file < files; file++) {
            for (String query : OF_A_FILE) {
                calls.add(query + "(" + file + ")");
            }
            places(calls, "clusterAt", file, 8);
            places(calls, "claimAt", file, 8);
            places(calls, "joinAt", file, 4);
        }
        return calls;
    }

    private static void places(List<String> calls, String query, int of, int places) {
        for (int place = 0; place < places; place++) {
            calls.add(query + "(" + of + ", " + place + ")");
        }
    }
}
