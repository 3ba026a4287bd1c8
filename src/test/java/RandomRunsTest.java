import java.lang.reflect.Method;
import java.lang.reflect.Modifier;
import java.util.ArrayList;
import java.util.Arrays;
import java.util.HashMap;
import java.util.List;
import java.util.Map;
import java.util.Random;
import java.util.TreeSet;

/** All promises at once: random runs of 512 calls, each answered as PlainFlock answers it. */
public final class RandomRunsTest {
    private static final int RUNS = 400;
    private static final int CALLS = 512;

    private final Map<String, Method> real = methodsOf(FlockPass.class);
    private final Map<String, Method> plain = methodsOf(PlainFlock.class);
    private final List<String> told = new ArrayList<>();
    private final Map<String, int[]> tally = new HashMap<>();
    private Random random;
    private FlockPass x;
    private PlainFlock y;
    private int calls;

    public static void main(String[] args) throws Exception {
        RandomRunsTest test = new RandomRunsTest();
        for (int run = 0; run < RUNS; run++) {
            if (!test.runOne(run)) {
                System.out.println("run " + run + " of seed " + run + " went wrong:");
                test.told.forEach(System.out::println);
                System.exit(1);
            }
        }
        test.tally.forEach((name, n) -> System.out.println(name + ": " + n[0] + " taken, " + n[1] + " NONE or false"));
    }

    private static Map<String, Method> methodsOf(Class<?> type) {
        Map<String, Method> all = new HashMap<>();
        for (Method m : type.getDeclaredMethods()) {
            if (Modifier.isPublic(m.getModifiers())) {
                all.put(m.getName(), m);
            }
        }
        return all;
    }

    private boolean runOne(int seed) throws Exception {
        random = new Random(seed);
        told.clear();
        x = new FlockPass();
        y = new PlainFlock();
        calls = 0;
        int heights = 1 + random.nextInt(6);
        int sheep = 1 + random.nextInt(random.nextInt(4) == 0 ? 80 : 8);
        int owners = 1 + random.nextInt(12);
        // Short years are closed often, long ones have room for many entries.
        int yearLength = random.nextInt(3) == 0 ? 150 : 2 + random.nextInt(20);
        boolean right = ask("alp", heights);
        for (int h = 0; h < heights; h++) {
            right &= tellHeight(heights);
        }
        for (int s = 0; s < sheep; s++) {
            right &= ask("sheep", random.nextInt(owners));
        }
        while (right && calls < CALLS) {
            right = random.nextInt(30) == 0 ? wildCall() : tameCall(heights, sheep, owners, yearLength);
        }
        return right;
    }

    private boolean tellHeight(int heights) throws Exception {
        boolean poor = random.nextBoolean();
        int most = 1 + random.nextInt(poor ? 100 : 2000);
        return ask("height", random.nextInt(heights), random.nextInt(poor ? 120 : 2500), most,
                random.nextInt(poor ? 4 : 101));
    }

    private boolean tameCall(int heights, int sheep, int owners, int yearLength) throws Exception {
        int s = random.nextInt(sheep);
        int k = random.nextInt((int) y.count(8) + 1);
        switch (random.nextInt(27)) {
            case 0:
                return tellRules();
            case 1:
                return random.nextInt(4) != 0 || tellHeight(heights);
            case 2:
                return ask("sheep", random.nextInt(owners));
            case 3:
            case 4:
                return ask("move", (int) y.count(3) + random.nextInt(3) - 1);
            case 5:
            case 6:
            case 7:
            case 8:
                return ask("day", random.nextInt(71) - 30, random.nextInt(3) == 0 ? random.nextInt(80) : 0);
            case 9:
            case 10:
            case 11:
            case 12:
            case 13:
            case 14:
                return ask("act", random.nextInt(4), s, 1 + random.nextInt(yearLength), random.nextInt(owners));
            case 15:
                return ask("milking", 1 + random.nextInt(yearLength));
            case 16:
            case 17:
                return ask("milk", s, random.nextInt(5001));
            case 18:
                return (random.nextBoolean() || goDown())
                        && ask("close", random.nextInt(random.nextInt(3) == 0 ? 1001 : 30)) && askOwners();
            case 19:
                return ask("work", random.nextInt(owners), 1 + random.nextInt(50));
            case 20:
                return ask("look", k, random.nextInt(151), s, random.nextInt(2));
            case 21:
                return ask("credit", k, s);
            case 22:
                return ask("part", k, random.nextInt(owners));
            case 23:
                return askWay(heights);
            case 24:
                return ask("grass", random.nextInt(heights), random.nextInt(3));
            case 25:
                return ask("entry", random.nextInt((int) y.count(8) + 1), random.nextInt(4));
            default:
                return ask("count", random.nextInt(14)) && ask("told", random.nextInt(owners), random.nextInt(6));
        }
    }

    private boolean goDown() throws Exception {
        boolean right = true;
        for (int h = (int) y.count(3); h >= 0 && right; h--) {
            right = ask("move", h - 1);
        }
        return right && ask("milking", Math.max(1, (int) y.count(1) - random.nextInt(3)));
    }

    private boolean askWay(int heights) throws Exception {
        // The longest ones of many heights are dear for the plain one.
        int longest = heights > 3 && random.nextInt(8) != 0 ? 5 : 8;
        boolean right = ask("way", 1 + random.nextInt(longest), random.nextInt(71) - 30);
        for (int i = 0; i < 9 && right; i++) {
            right = ask("step", i);
        }
        return right;
    }

    private boolean askOwners() throws Exception {
        boolean right = true;
        if (y.count(1) == 0) {
            for (int owner = 0; owner < 12 && right; owner++) {
                right = ask("told", owner, random.nextInt(6));
            }
        }
        return right;
    }

    private boolean tellRules() throws Exception {
        String signs = random.nextBoolean() ? "lmwv;0123456789" : "lmwv;;0123456789 x:/";
        StringBuilder text = new StringBuilder();
        int clauses = 1 + random.nextInt(5);
        for (int i = 0; i < clauses; i++) {
            text.append(i == 0 ? "" : ";").append("lmwv".charAt(random.nextInt(4)));
            text.append(random.nextInt(random.nextBoolean() ? 100 : 10000));
        }
        if (random.nextInt(3) == 0) {
            text.setCharAt(random.nextInt(text.length()), signs.charAt(random.nextInt(signs.length())));
        }
        int length = text.length();
        text.setLength(40);
        boolean right = feed(text, 0);
        if (length > 20) {
            right &= feed(text, 20);
        }
        right &= ask("rules", random.nextInt(5) == 0 ? random.nextInt(42) : length);
        return right && ask("rule", random.nextInt(4));
    }

    private boolean feed(StringBuilder text, int from) throws Exception {
        int[] words = new int[5];
        for (int i = 0; i < 20; i++) {
            words[i / 4] = words[i / 4] << 8 | text.charAt(from + i);
        }
        return ask("feed", words[0], words[1], words[2], words[3], words[4]);
    }

    private boolean wildCall() throws Exception {
        List<String> names = new ArrayList<>(new TreeSet<>(real.keySet()));
        String name = names.get(random.nextInt(names.size()));
        int[] edges = {Integer.MIN_VALUE, -31, -30, -2, -1, 0, 1, 2, 3, 4, 5, 6, 7, 8, 9, 11, 12, 40, 41, 79, 80,
            99, 100, 101, 149, 150, 151, 300, 301, 1000, 1001, 5000, 5001, 60000, 60001, Integer.MAX_VALUE};
        int[] values = new int[real.get(name).getParameterCount()];
        for (int i = 0; i < values.length; i++) {
            values[i] = edges[random.nextInt(edges.length)];
        }
        return ask(name, values);
    }

    private boolean ask(String name, int... values) throws Exception {
        Object[] boxed = Arrays.stream(values).boxed().toArray();
        long got = asLong(real.get(name).invoke(x, boxed));
        long want = asLong(plain.get(name).invoke(y, boxed));
        calls++;
        boolean taken = real.get(name).getReturnType() == boolean.class ? got != 0 : got != -1;
        tally.computeIfAbsent(name, n -> new int[2])[taken ? 0 : 1]++;
        told.add(name + Arrays.toString(values) + " answered " + got + ", due is " + want);
        return got == want;
    }

    private static long asLong(Object answer) {
        if (answer instanceof Boolean b) {
            return b ? 1 : 0;
        }
        return ((Number) answer).longValue();
    }
}
