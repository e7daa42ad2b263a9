import java.util.ArrayList;
import java.util.List;

/**
 * A run of calls on a new object, told as text, a row for each call:
 *
 * <pre>
 * make(3, 5)                             answers, whatever it is
 * make(3, 5) = 0                         answers 0
 * make(0, 5) throws IllegalArgumentException
 * numbers(2) = 51 88 125 254             number(2, 0) to number(2, 3)
 * chain(0) = 0 1 2                       clusters(0), clusterAt(0, 0), ..
 * claim(0) = 0 1 2, or = none            claimed(0), claimAt(0, 0) to claimAt(0, 7)
 * join(0) = 0 1 2, or = none             hasJoin(0), joinAt(0, 0), ..
 * // a word on what follows
 * </pre>
 *
 * Behind each row that is refused it is also looked at whether the refused call
 * changed anything that can be asked, then or after further calls.
 */
final class Story {
    private static final int MOST_CALLS = 512;
    private static final int CLAIM_PLACES = 8;

    private final Check check;
    private final String title;
    private final GraveyardReader reader = new GraveyardReader();
    private final List<String> changes = new ArrayList<>();
    private List<String> pictureNow = null;
    private int calls = 0;

    private Story(Check check, String title) {
        this.check = check;
        this.title = title;
    }

    static void tell(Check check, String title, String rows) {
        Story story = new Story(check, title);
        for (String told : rows.split("\n")) {
            String row = told.trim();
            if (!row.isEmpty() && !row.startsWith("//")) {
                story.tellRow(row);
            }
        }
        if (story.calls == 0 || story.calls > MOST_CALLS) {
            check.complain(title + ": the story has " + story.calls + " calls");
        }
    }

    private void tellRow(String row) {
        int answer = row.indexOf(" = ");
        int refusal = row.indexOf(" throws ");
        if (answer > 0) {
            answered(row.substring(0, answer), row.substring(answer + " = ".length()));
        } else if (refusal > 0) {
            refused(row.substring(0, refusal), row.substring(refusal + " throws ".length()));
        } else {
            String got = ask(row);
            check.same(title + ": " + row + " is answered", "true", String.valueOf(!isRefusal(got)));
        }
    }

    private void answered(String call, String want) {
        String argument = call.substring(call.indexOf('(') + 1, call.length() - 1);
        String[] wants = want.equals("none") ? new String[0] : want.split(" ");
        if (call.startsWith("numbers(")) {
            each("number", argument, wants);
        } else if (call.startsWith("chain(")) {
            due("clusters(" + argument + ")", String.valueOf(wants.length));
            each("clusterAt", argument, wants);
        } else if (call.startsWith("claim(")) {
            due("claimed(" + argument + ")", String.valueOf(wants.length));
            each("claimAt", argument, wants);
            for (int place = wants.length; place < CLAIM_PLACES; place++) {
                due("claimAt(" + argument + ", " + place + ")", "-1");
            }
        } else if (call.startsWith("join(")) {
            due("hasJoin(" + argument + ")", String.valueOf(wants.length > 0));
            each("joinAt", argument, wants);
        } else {
            due(call, want);
        }
    }

    private void each(String call, String argument, String[] wants) {
        for (int place = 0; place < wants.length; place++) {
            due(call + "(" + argument + ", " + place + ")", wants[place]);
        }
    }

    private void due(String call, String want) {
        check.same(title + ": " + call, want, ask(call));
    }

    private void refused(String call, String want) {
        due(call, want);
        if (pictureNow == null) {
            pictureNow = Picture.of(changes, null);
        }
        check.same(title + ": what " + call + " changed", "nothing",
                Picture.difference(pictureNow, Picture.of(changes, call)));
    }

    private String ask(String call) {
        calls++;
        String got = Calls.answer(reader, call);
        if (isChange(call) && !isRefusal(got)) {
            changes.add(call);
            pictureNow = null;
        }
        return got;
    }

    private static boolean isChange(String call) {
        return call.startsWith("make(") || call.startsWith("grow(") || call.startsWith("move(")
                || call.startsWith("throwAway(");
    }

    private static boolean isRefusal(String got) {
        return got.contains("Exception");
    }
}
