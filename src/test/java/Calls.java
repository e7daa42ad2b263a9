/** A call told as text, such as "make(3, 5)", and its answer as text. */
final class Calls {
    private Calls() {
    }

    /** The answer, or the exception's simple name if the program's own lines threw it. */
    static String answer(GraveyardReader reader, String call) {
        int open = call.indexOf('(');
        int close = call.indexOf(')');
        if (open < 1 || close != call.length() - 1) {
            throw new AssertionError("not a call: " + call);
        }
        int[] told = numbers(call.substring(open + 1, close));
        try {
            return String.valueOf(ask(reader, call.substring(0, open), told));
        } catch (RuntimeException thrown) {
            String name = thrown.getClass().getSimpleName();
            return Check.comesFromTheProgram(thrown) ? name : name + " of the machine";
        }
    }

    private static int[] numbers(String told) {
        if (told.isEmpty()) {
            return new int[0];
        }
        String[] parts = told.split(", ");
        int[] numbers = new int[parts.length];
        for (int i = 0; i < parts.length; i++) {
            numbers[i] = switch (parts[i]) {
                case "MIN" -> Integer.MIN_VALUE;
                case "MAX" -> Integer.MAX_VALUE;
                default -> Integer.parseInt(parts[i]);
            };
        }
        return numbers;
    }

    private static Object ask(GraveyardReader reader, String name, int[] a) {
        return switch (name + a.length) {
            case "make2" -> reader.make(a[0], a[1]);
            case "grow1" -> reader.grow(a[0]);
            case "move1" -> reader.move(a[0]);
            case "throwAway1" -> reader.throwAway(a[0]);
            case "files0" -> reader.files();
            case "free0" -> reader.free();
            case "number2" -> reader.number(a[0], a[1]);
            case "fileOf1" -> reader.fileOf(a[0]);
            case "clusters1" -> reader.clusters(a[0]);
            case "clusterAt2" -> reader.clusterAt(a[0], a[1]);
            case "checksum1" -> reader.checksum(a[0]);
            case "claimed1" -> reader.claimed(a[0]);
            case "claimAt2" -> reader.claimAt(a[0], a[1]);
            case "confidence1" -> reader.confidence(a[0]);
            case "ownerOf1" -> reader.ownerOf(a[0]);
            case "owned1" -> reader.owned(a[0]);
            case "sure0" -> reader.sure();
            case "hasJoin1" -> reader.hasJoin(a[0]);
            case "joinAt2" -> reader.joinAt(a[0], a[1]);
            default -> throw new AssertionError("no such call: " + name);
        };
    }
}
