import java.util.ArrayList;
import java.util.List;
import java.util.Random;

/**
 * "An object is used for at most 512 calls": the last of them is answered as the first, however far a
 * number has grown by then. And no call throws, whatever it is given (rule 7 of LANGUAGE.md), not even
 * one of those behind the 512th, whose answer is free.
 */
public final class LifeTest {
    private static final int[] FAR = {Integer.MIN_VALUE, Integer.MIN_VALUE + 1, -1000000, -31, -2, -1, 0, 1, 2, 5, 6, 7, 8,
        11, 12, 13, 39, 40, 79, 80, 99, 100, 149, 150, 151, 1000, 60000, 60001, Integer.MAX_VALUE - 1, Integer.MAX_VALUE};
    private static final List<Call> FACE = Sentence.calls("""
        feed(0, 0, 0, 0, 0) | rules(0) | alp(0) | height(0, 0, 0, 0) | sheep(0) | move(0) | day(0, 0) | act(0, 0, 0, 0)
        milking(0) | milk(0, 0) | close(0) | work(0, 0) | look(0, 0, 0, 0) | credit(0, 0) | part(0, 0) | way(0, 0)
        step(0) | grass(0, 0) | told(0, 0) | entry(0, 0) | rule(0) | count(0)
        """);

    public static void main(String[] args) {
        farNumbers();
        fullAlp();
        noCallThrows();
        noLaterCallThrows();
        Due.end();
    }

    private static void farNumbers() {
        Sentence.holds("511 times WORK", """
            511 x work(0, 1000) | told(0, 3) = -511000
            """);
        Sentence.holds("170 YEARS", "milking(1) | day(-30, 300) | close(1000) = 1000\n".repeat(170) + """
            count(0) = 171 | count(4) = 51000
            """);
        Sentence.holds("101 YEARS of CHEESES and WORK", "rules 'l0;w9999' = 0 | sheep(11)\n"
                + "act(0, 0, 1, 0) | milking(1) | milk(0, 5000) | day(0, 0) | close(1000) = 0\n".repeat(101) + """
            told(11, 1) = 101000 | told(11, 3) = 5049495
            """);
        Sentence.holds("84 YEARS of losses", "rules 'v9999' = 0 | sheep(7)\n"
                + "act(0, 0, 1, 0) | act(1, 0, 2, 0) | milking(1) | 2 x day(0, 0) | close(0) = 0\n".repeat(84) + """
            told(7, 4) = 839916 | count(11) = 839916
            """);
        Sentence.holds("62 YEARS of losses that another one pays for", "rules 'v9999' = 0 | sheep(7..8)\n"
                + "act(0, 0..1, 1, 0) | act(1, 0, 2, 0) | milking(1) | milk(1, 1) | 2 x day(0, 0) | close(0)\n".repeat(62)
                + """
            told(7, 4) = 619938 | told(8, 4) = -619938 | count(11) = 0
            """);
    }

    private static void fullAlp() {
        String flock = "alp(6) | height(0, 60000, 60000, 100) | 80 x sheep(11) | act(0, 0..79, 1, 0) | move(0)\n";
        Sentence.holds("150 DAYS of 80 SHEEP that eat", flock + """
            150 x day(40, 0) | count(13) = 120000 | count(5) = 0 | grass(0, 0) = 59200 | count(1) = 150
            """);
        Sentence.holds("150 DAYS of 80 SHEEP without GRASS", flock + """
            move(1) | 150 x day(0, 300) | count(13) = 0 | count(5) = 120000 | count(4) = 45000
            way(8, -30) = 0 | move(2) | move(3) | way(8, -30) = 1600 | step(1) = 1 | step(2) = 0
            """);
        Sentence.holds("300 DAYS of SNOW, then its melting", """
            150 x day(-30, 300) | milking(150) | close(0) | 150 x day(-30, 300) | milking(150) | close(0)
            count(4) = 90000 | count(9) = 0
            150 x day(40, 0) | count(4) = 66000
            """);
    }

    /** Each call with far numbers on alps of many kinds, each of which is used for 512 calls. */
    private static void noCallThrows() {
        Random random = new Random(1);
        for (List<Call> made : alps()) {
            for (int run = 0; run < 150; run++) {
                askFar(made, Twins.MOST_CALLS - made.size(), random);
            }
        }
    }

    private static void noLaterCallThrows() {
        Random random = new Random(2);
        for (List<Call> made : alps()) {
            askFar(made, 20000, random);
        }
    }

    private static List<List<Call>> alps() {
        List<List<Call>> all = new ArrayList<>();
        all.add(List.of());
        all.add(Sentence.calls(Alps.bare(Alps.FIRST_YEAR)));
        all.add(Sentence.calls(Alps.bare(Alps.SECOND_YEAR)));
        all.add(Sentence.calls("80 x sheep(11) | act(0, 0..79, 150, 0) | act(1, 0..19, 150, 0) | 150 x day(40, 300)"));
        all.add(Sentence.calls("alp(6) | sheep(0..11) | move(0..5) | milking(1) | act(0, 0..11, 1, 0) | day(40, 300)"));
        return all;
    }

    private static void askFar(List<Call> made, int times, Random random) {
        FlockPass x = new FlockPass();
        for (Call call : made) {
            call.on(x);
        }
        String thrown = "";
        for (int i = 0; i < times && thrown.isEmpty(); i++) {
            Call like = FACE.get(random.nextInt(FACE.size()));
            int[] values = new int[like.values().size()];
            for (int v = 0; v < values.length; v++) {
                values[v] = random.nextInt(3) == 0 ? random.nextInt(4) : FAR[random.nextInt(FAR.length)];
            }
            thrown = thrownBy(Call.of(like.name(), values), x);
        }
        Due.is("a call that throws: " + thrown, thrown.isEmpty(), true);
    }

    private static String thrownBy(Call call, FlockPass x) {
        try {
            call.on(x);
            return "";
        } catch (IllegalStateException e) {
            return e.getMessage() + ": " + e.getCause().getCause();
        }
    }
}
