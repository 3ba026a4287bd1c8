import java.util.ArrayList;
import java.util.List;
import java.util.regex.Matcher;
import java.util.regex.Pattern;

/**
 * Tests one sentence of the document by a run of calls on a new object, told as a text.
 *
 * <p>Calls stand in lines, with a | between two of one line: "day(0, 0) = 1 | count(1) = 1". Behind
 * "=" stands the answer that is due: a number, NONE, true or false; a call without it must be taken.
 * "3 x day(0, 0)" is called three times, "sheep(0..2)" once with each number, and the answer is due
 * each time. "feed 'l5'" feeds a text, "rules 'l5'" feeds it and takes all of it. MIN and MAX are
 * the least and the greatest int.
 *
 * <p>Behind each call that is refused, all that can be asked must be as it is without that call.
 */
final class Sentence {
    private static final Pattern LINE = Pattern.compile("(?:(\\d+) x )?(\\w+)(?:\\((.*)\\)| '(.*)')(?: = (\\S+))?");
    private static final Pattern RANGE = Pattern.compile("(-?\\d+)\\.\\.(-?\\d+)");

    private final String title;
    private final FlockPass x = new FlockPass();
    private final List<Call> gone = new ArrayList<>();

    private Sentence(String title) {
        this.title = title;
    }

    /** Fails unless each call of the text answers as is due. */
    static void holds(String title, String text) {
        Sentence sentence = new Sentence(title);
        for (String line : text.split("\n")) {
            // A | inside of a fed text would end the line's part, so such texts are not fed.
            for (String part : line.split("\\|")) {
                if (!part.isBlank()) {
                    sentence.tell(part.strip());
                }
            }
        }
        Due.is(title + ": at most " + Twins.MOST_CALLS + " calls", sentence.gone.size() <= Twins.MOST_CALLS, true);
    }

    /** The calls of a text that holds no answers. */
    static List<Call> calls(String text) {
        Sentence sentence = new Sentence("calls");
        List<Call> all = new ArrayList<>();
        for (String part : text.split("[|\n]")) {
            if (!part.isBlank()) {
                all.addAll(sentence.read(sentence.match(part.strip())));
            }
        }
        return all;
    }

    private void tell(String part) {
        Matcher m = match(part);
        List<Call> calls = read(m);
        for (int i = 0; i < calls.size(); i++) {
            boolean onlyFeeds = m.group(4) != null && i < calls.size() - 1;
            ask(calls.get(i), onlyFeeds ? null : m.group(5));
        }
    }

    private Matcher match(String part) {
        Matcher m = LINE.matcher(part);
        if (!m.matches()) {
            throw new IllegalArgumentException(title + ": can't read '" + part + "'");
        }
        return m;
    }

    private List<Call> read(Matcher m) {
        List<Call> once = m.group(4) != null ? tapeCalls(m.group(2), m.group(4))
                : spread(m.group(2), m.group(3).isBlank() ? new String[0] : m.group(3).split(", *"));
        int times = m.group(1) == null ? 1 : Integer.parseInt(m.group(1));
        List<Call> all = new ArrayList<>();
        for (int i = 0; i < times; i++) {
            all.addAll(once);
        }
        return all;
    }

    private static List<Call> tapeCalls(String name, String text) {
        List<Call> calls = Call.feeds(text);
        if (name.equals("rules")) {
            calls.add(Call.of("rules", text.length()));
        }
        return calls;
    }

    /** One call for each number of the first range, and so on with the next one. */
    private static List<Call> spread(String name, String[] values) {
        for (int i = 0; i < values.length; i++) {
            Matcher range = RANGE.matcher(values[i]);
            if (range.matches()) {
                List<Call> all = new ArrayList<>();
                for (int n = Integer.parseInt(range.group(1)); n <= Integer.parseInt(range.group(2)); n++) {
                    String[] one = values.clone();
                    one[i] = String.valueOf(n);
                    all.addAll(spread(name, one));
                }
                return all;
            }
        }
        int[] numbers = new int[values.length];
        for (int i = 0; i < values.length; i++) {
            numbers[i] = (int) number(values[i]);
        }
        return List.of(Call.of(name, numbers));
    }

    private static long number(String word) {
        return switch (word) {
            case "NONE" -> FlockPass.NONE;
            case "true" -> 1;
            case "false" -> 0;
            case "MIN" -> Integer.MIN_VALUE;
            case "MAX" -> Integer.MAX_VALUE;
            default -> Long.decode(word);
        };
    }

    private void ask(Call call, String due) {
        long got = call.on(x);
        String told = title + ": " + call + " as call " + (gone.size() + 1);
        if (due == null) {
            Due.is(told + " is refused", call.isRefusal(got), false);
        } else {
            Due.is(told, got, number(due));
        }
        List<Call> before = List.copyOf(gone);
        gone.add(call);
        if (call.isRefusal(got)) {
            Twins.same(told, gone, before);
        }
    }
}
