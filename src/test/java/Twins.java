import java.util.ArrayList;
import java.util.List;

/**
 * Two runs of calls must lead to the same alp: all that can be asked is answered alike, at once and
 * behind further calls that bring to light what can't be asked (bytes of the tape, MILK of SHEEP that
 * are not UP). As an object is used for 512 calls, questions beyond them go to new objects.
 */
final class Twins {
    static final int MOST_CALLS = 512;

    private static final List<List<Call>> SEQUELS = List.of(
            List.of(),
            Sentence.calls("rules(20)"),
            Sentence.calls("rules(40)"),
            Sentence.calls("milking(1) | act(0, 0..5, 1, 0) | act(3, 0..5, 1, 9) | day(7, 7)"),
            Sentence.calls("""
                3 x day(40, 0) | move(4) | move(3) | move(2) | move(1) | move(0) | move(-1)
                milking(1) | close(7) | sheep(8) | day(-1, 1)
                """));

    private Twins() {
    }

    static void same(String told, List<Call> one, List<Call> other) {
        for (List<Call> sequel : SEQUELS) {
            // A run without room for a sequel has none: what later calls answer is free.
            if (sequel.isEmpty() || one.size() + sequel.size() < MOST_CALLS - 100) {
                sameBehind(told, one, other, sequel);
            }
        }
    }

    private static void sameBehind(String told, List<Call> one, List<Call> other, List<Call> sequel) {
        FlockPass x = made(one);
        FlockPass y = made(other);
        int unlike = unlikeAnswers(told, x, y, sequel);
        String behind = told + ", then " + sequel;
        int calls = one.size() + sequel.size();
        for (Call question : questions(made(joined(other, sequel)))) {
            if (calls >= MOST_CALLS) {
                x = made(joined(one, sequel));
                y = made(joined(other, sequel));
                calls = Math.min(one.size() + sequel.size(), MOST_CALLS - 1);
            }
            unlike += unlikeAnswers(behind, x, y, List.of(question));
            calls++;
        }
        Due.is(told + ": answers that have changed", unlike, 0);
    }

    private static int unlikeAnswers(String told, FlockPass x, FlockPass y, List<Call> calls) {
        int unlike = 0;
        for (Call call : calls) {
            long got = call.on(x);
            long want = call.on(y);
            if (got != want) {
                System.out.println(told + ", then " + call + " answered " + got + ", due is " + want);
                unlike++;
            }
        }
        return unlike;
    }

    private static FlockPass made(List<Call> calls) {
        FlockPass x = new FlockPass();
        for (Call call : calls) {
            call.on(x);
        }
        return x;
    }

    static List<Call> joined(List<Call> one, List<Call> other) {
        List<Call> all = new ArrayList<>(one);
        all.addAll(other);
        return all;
    }

    /** All that can be asked of an alp like this one, but for DAYS on which nothing is likely. */
    private static List<Call> questions(FlockPass x) {
        int today = (int) x.count(1);
        int sheep = (int) x.count(6);
        int entries = (int) x.count(8);
        List<Call> all = new ArrayList<>(Sentence.calls("""
            count(0..13) | rule(0..3) | step(0..8) | grass(0..6, 0..2) | told(0..11, 0..5)
            """));
        for (int e = 0; e <= entries; e++) {
            for (int what = 0; what < 4; what++) {
                all.add(Call.of("entry", e, what));
            }
        }
        for (int s = 0; s <= sheep; s++) {
            all.add(Call.of("credit", entries, s));
            for (int day : new int[] {0, 1, today, 150}) {
                all.add(Call.of("look", entries, day, s, 0));
                all.add(Call.of("look", entries, day, s, 1));
            }
        }
        for (int owner = 0; owner < 12; owner++) {
            all.add(Call.of("part", entries, owner));
        }
        all.add(Call.of("look", entries + 1, 0, 0, 0));
        return all;
    }
}
