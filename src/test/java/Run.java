import java.util.regex.Matcher;
import java.util.regex.Pattern;

/**
 * Calls on one new object, written one behind the other as the document and the issues write them, each with the
 * answer that is due: "frame(0, 1, 2, 0)=3 where(1)=0". Without "=" any answer will do; "3*" stands for three calls.
 */
final class Run {
    private static final int MOST_CALLS = 512;
    private static final Pattern CALL =
            Pattern.compile("\\s*(?:(\\d+)\\*)?(\\w+)\\(([^)]*)\\)(?:=(-?\\w+))?");

    private final Checks checks;
    private final LearningRepeater x = new LearningRepeater();
    private int made = 0;

    Run(Checks checks) {
        this.checks = checks;
    }

    Run calls(String format, Object... values) {
        answers(values.length == 0 ? format : String.format(format, values));
        return this;
    }

    /** Makes the calls and tells what they answered. */
    String answers(String calls) {
        StringBuilder answers = new StringBuilder();
        String script = calls.strip();
        Matcher call = CALL.matcher(script);
        for (int end = 0; end < script.length(); end = call.end()) {
            if (!call.find(end) || call.start() != end) {
                throw new IllegalArgumentException("no call at " + end + " of " + script);
            }
            int times = call.group(1) == null ? 1 : Integer.parseInt(call.group(1));
            for (int k = 0; k < times; k++) {
                answers.append(' ').append(one(call.group(2), call.group(3), call.group(4)));
            }
        }
        return answers.toString();
    }

    private int one(String name, String arguments, String due) {
        int answer = answer(name, numbers(arguments));
        if (due != null) {
            checks.due("call " + made + " of the run, " + name + "(" + arguments + "),", answer, number(due));
        }
        return answer;
    }

    /** Types the text, whatever its characters are. */
    Run text(String text) {
        for (int k = 0; k < text.length(); k++) {
            answer("type", new int[] {text.charAt(k)});
        }
        return this;
    }

    /** Lets so many seconds pass. */
    Run seconds(int seconds) {
        for (int left = seconds; left > 0; left -= 10) {
            answer("pass", new int[] {Math.min(left, 10)});
        }
        return this;
    }

    /** All that the object tells now. */
    Told told() {
        Told told = new Told(x);
        count(told.calls());
        return told;
    }

    private void count(int calls) {
        made += calls;
        if (made > MOST_CALLS) {
            throw new IllegalStateException("a run of more calls than the document allows");
        }
    }

    private static int[] numbers(String arguments) {
        if (arguments.isBlank()) {
            return new int[0];
        }
        String[] words = arguments.split(",");
        int[] numbers = new int[words.length];
        for (int k = 0; k < words.length; k++) {
            numbers[k] = number(words[k].strip());
        }
        return numbers;
    }

    private static int number(String word) {
        return switch (word) {
            case "UNKNOWN" -> LearningRepeater.UNKNOWN;
            case "BAD_VALUE" -> LearningRepeater.BAD_VALUE;
            case "NOT_POSSIBLE" -> LearningRepeater.NOT_POSSIBLE;
            case "NONE" -> LearningRepeater.NONE;
            case "MAX" -> Integer.MAX_VALUE;
            case "MIN" -> Integer.MIN_VALUE;
            case "true" -> 1;
            case "false" -> 0;
            default -> Integer.parseInt(word);
        };
    }

    private int answer(String name, int[] a) {
        count(1);
        return switch (name) {
            case "setPort" -> x.setPort(a[0], a[1] == 1);
            case "join" -> x.join(a[0], a[1]);
            case "part" -> x.part(a[0]);
            case "release" -> x.release(a[0]);
            case "set" -> x.set(a[0], a[1]);
            case "frame" -> x.frame(a[0], a[1], a[2], a[3]);
            case "forget" -> x.forget(a[0]);
            case "pass" -> x.pass(a[0]);
            case "type" -> x.type((char) a[0]);
            case "clearText" -> x.clearText();
            case "readFrames" -> x.readFrames();
            case "undo" -> x.undo();
            case "keep" -> x.keep();
            case "restore" -> x.restore();
            case "port" -> x.port(a[0], a[1]);
            case "account" -> x.account(a[0], a[1]);
            case "entry" -> x.entry(a[0], a[1]);
            case "where" -> x.where(a[0]);
            case "queued" -> x.queued(a[0], a[1], a[2]);
            case "wouldGo" -> x.wouldGo(a[0], a[1], a[2]);
            case "loops" -> x.loops();
            case "count" -> x.count(a[0]);
            default -> throw new IllegalArgumentException("no method " + name);
        };
    }
}
