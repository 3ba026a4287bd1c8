import java.util.ArrayList;
import java.util.Arrays;
import java.util.Comparator;
import java.util.List;

/**
 * The document told once more, word by word and DAY by DAY, without a thought for speed:
 * random runs compare FlockPass with it.
 */
public final class PlainFlock {
    private record Entry(int what, int sheep, int day, int owner) {
    }

    private record State(boolean up, boolean dead, int owner) {
    }

    private record Way(int hunger, int grass, List<Integer> heights) {
    }

    private static final class Height {
        int grass = 0;
        int most = 1;
        int growth = 0;

        Height copy() {
            Height other = new Height();
            other.grass = grass;
            other.most = most;
            other.growth = growth;
            return other;
        }
    }

    private StringBuilder tape = new StringBuilder();
    private int[] rules = {5, 500, 40, 90};
    private List<Height> heights = new ArrayList<>(List.of(new Height()));
    private long snow = 0;
    private int flock = -1;
    private long hunger = 0;
    private long eaten = 0;
    private int year = 1;
    private int today = 0;
    private final List<State> beginning = new ArrayList<>();
    private final List<Entry> entries = new ArrayList<>();
    private int milkingDay = -1;
    private final int[] milk = new int[80];
    private List<Integer> latestWay = List.of();
    private final long[] cheesesOfAll = new long[12];
    private final long[] cheesesOfLatest = new long[12];
    private final long[] owed = new long[12];
    private final long[] done = new long[12];
    private final long[] paidTo = new long[12];
    private final long[] paidIn = new long[12];
    private long own = 0;
    private final List<Integer> turn = new ArrayList<>(List.of(0, 1, 2, 3, 4, 5, 6, 7, 8, 9, 10, 11));

    public int feed(int a, int b, int c, int d, int e) {
        if (tape.length() + 20 > 40) {
            return -1;
        }
        for (int word : new int[] {a, b, c, d, e}) {
            String hex = String.format("%08x", word);
            for (int i = 0; i < 8; i += 2) {
                tape.append((char) Integer.parseInt(hex.substring(i, i + 2), 16));
            }
        }
        return tape.length();
    }

    public int rules(int n) {
        if (n < 0 || n > tape.length()) {
            return -1;
        }
        String text = tape.substring(0, n);
        tape = new StringBuilder();
        int[] numbers = {5, 500, 40, 90};
        int at = 0;
        while (true) {
            int letter = at < n ? "lmwv".indexOf(text.charAt(at)) : -1;
            if (letter < 0) {
                return 100 + at;
            }
            at++;
            String digits = "";
            while (at < n && text.charAt(at) >= '0' && text.charAt(at) <= '9') {
                if (digits.length() == 4) {
                    return 300 + at;
                }
                digits += text.charAt(at);
                at++;
            }
            if (digits.isEmpty()) {
                return 200 + at;
            }
            numbers[letter] = Integer.parseInt(digits);
            if (at == n) {
                rules = numbers;
                return 0;
            }
            if (text.charAt(at) != ';') {
                return 400 + at;
            }
            at++;
        }
    }

    public boolean alp(int n) {
        if (n < 1 || n > 6 || today != 0 || year != 1 || flock != -1 || !entries.isEmpty()) {
            return false;
        }
        heights = new ArrayList<>();
        for (int h = 0; h < n; h++) {
            heights.add(new Height());
        }
        return true;
    }

    public boolean height(int h, int grass, int most, int growth) {
        if (h < 0 || h >= heights.size() || grass < 0 || grass > 60000 || most < 1 || most > 60000
                || growth < 0 || growth > 100) {
            return false;
        }
        heights.get(h).grass = grass;
        heights.get(h).most = most;
        heights.get(h).growth = growth;
        return true;
    }

    public int sheep(int owner) {
        if (owner < 0 || owner > 11 || beginning.size() == 80 || !entries.isEmpty()) {
            return -1;
        }
        beginning.add(new State(false, false, owner));
        return beginning.size() - 1;
    }

    public boolean move(int h) {
        boolean can;
        if (flock == -1) {
            can = h == 0 && snow <= 20;
        } else if (h == -1) {
            can = flock == 0 && snow <= 20;
        } else {
            can = h >= 0 && h < heights.size() && (h == flock + 1 || h == flock - 1);
        }
        if (can) {
            flock = h;
        }
        return can;
    }

    public int day(int warmth, int fall) {
        if (warmth < -30 || warmth > 40 || fall < 0 || fall > 300 || today == 150) {
            return -1;
        }
        today++;
        snow += fall;
        if (4 * warmth > 0) {
            snow -= 4 * warmth;
        }
        if (snow < 0) {
            snow = 0;
        }
        int before = flock == -1 ? 0 : upOn(today) * 10;
        int lacking = goBy(heights, flock, warmth, upOn(today));
        hunger += lacking;
        eaten += before - lacking;
        return today;
    }

    /** Steps (2) and (3) of a DAY; answers its HUNGER. */
    private static int goBy(List<Height> all, int flock, int warmth, int up) {
        for (int h = 0; h < all.size(); h++) {
            Height height = all.get(h);
            int more = height.growth * (warmth - 3 * h);
            if (more > 0) {
                height.grass = Math.max(height.grass, Math.min(height.most, height.grass + more));
            }
        }
        if (flock == -1) {
            return 0;
        }
        int lacking = 0;
        for (int i = 0; i < 10 * up; i++) {
            if (all.get(flock).grass > 0) {
                all.get(flock).grass--;
            } else {
                lacking++;
            }
        }
        return lacking;
    }

    public int act(int what, int sheep, int day, int owner) {
        if (what < 0 || what > 3 || sheep < 0 || sheep >= beginning.size() || day < 1 || day > 150
                || entries.size() == 100) {
            return -1;
        }
        if (what == 3 && (owner < 0 || owner > 11)) {
            return -1;
        }
        entries.add(new Entry(what, sheep, day, what == 3 ? owner : -1));
        if (state(entries.size(), 150, sheep) == null) {
            entries.remove(entries.size() - 1);
            return -1;
        }
        return entries.size() - 1;
    }

    /** Of a SHEEP behind all ACTS of a DAY; null if one does not FIT. */
    private State state(int k, int day, int sheep) {
        List<Entry> acts = new ArrayList<>();
        for (Entry e : entries.subList(0, k)) {
            if (e.sheep() == sheep && e.day() <= day) {
                acts.add(e);
            }
        }
        acts.sort(Comparator.comparingInt(Entry::day));
        State now = beginning.get(sheep);
        for (Entry e : acts) {
            if (now.dead() || e.what() == 0 && now.up() || (e.what() == 1 || e.what() == 2) && !now.up()
                    || e.what() == 3 && e.owner() == now.owner()) {
                return null;
            }
            now = switch (e.what()) {
                case 0 -> new State(true, false, now.owner());
                case 1 -> new State(false, false, now.owner());
                case 2 -> new State(false, true, now.owner());
                default -> new State(now.up(), false, e.owner());
            };
        }
        return now;
    }

    private int upOn(int day) {
        int up = 0;
        for (int s = 0; s < beginning.size(); s++) {
            up += state(entries.size(), day, s).up() ? 1 : 0;
        }
        return up;
    }

    public boolean milking(int day) {
        if (day < 1 || day > 150 || milkingDay != -1) {
            return false;
        }
        milkingDay = day;
        return true;
    }

    public boolean milk(int sheep, int n) {
        if (sheep < 0 || sheep >= beginning.size() || n < 0 || n > 5000 || milkingDay == -1) {
            return false;
        }
        milk[sheep] = n;
        return true;
    }

    public int close(int cheeses) {
        if (cheeses < 0 || cheeses > 1000 || flock != -1 || milkingDay == -1 || milkingDay > today) {
            return -1;
        }
        long[] parts = new long[12];
        for (int owner = 0; owner < 12; owner++) {
            parts[owner] = part(entries.size(), owner);
            owed[owner] += (long) Math.ceil(rules[2] * parts[owner] / 1000.0);
        }
        long all = Arrays.stream(parts).sum();
        int left = partCheeses(cheeses, parts, all);
        payPurse(parts, all);
        for (int s = 0; s < beginning.size(); s++) {
            State end = state(entries.size(), today, s);
            beginning.set(s, new State(false, end.dead(), end.owner()));
        }
        entries.clear();
        Arrays.fill(milk, 0);
        milkingDay = -1;
        today = 0;
        year++;
        hunger = 0;
        return left;
    }

    private int partCheeses(int cheeses, long[] parts, long all) {
        Arrays.fill(cheesesOfLatest, 0);
        int left = cheeses;
        if (all > 0) {
            for (int owner = 0; owner < 12; owner++) {
                cheesesOfLatest[owner] = cheeses * parts[owner] / all;
                left -= (int) cheesesOfLatest[owner];
            }
            for (; left > 0; left--) {
                Integer first = turn.stream().filter(o -> parts[o] > 0).findFirst().orElseThrow();
                turn.remove(first);
                turn.add(first);
                cheesesOfLatest[first]++;
            }
        }
        for (int owner = 0; owner < 12; owner++) {
            cheesesOfAll[owner] += cheesesOfLatest[owner];
        }
        return left;
    }

    private void payPurse(long[] parts, long all) {
        long sum = 0;
        for (int s = 0; s < beginning.size(); s++) {
            if (beginning.get(s).dead()) {
                continue;
            }
            boolean wasUp = false;
            for (int d = 1; d <= today; d++) {
                wasUp |= state(entries.size(), d, s).up();
            }
            State end = state(entries.size(), today, s);
            if (end.dead() || wasUp && !end.up()) {
                paidTo[end.owner()] += rules[3];
                sum += rules[3];
            }
        }
        long lacking = sum;
        for (int owner = 0; owner < 12 && all > 0; owner++) {
            paidIn[owner] += sum * parts[owner] / all;
            lacking -= sum * parts[owner] / all;
        }
        own += lacking;
    }

    public boolean work(int owner, int days) {
        if (owner < 0 || owner > 11 || days < 1 || days > 1000) {
            return false;
        }
        done[owner] += days;
        return true;
    }

    public int look(int k, int day, int s, int what) {
        if (k < 0 || k > entries.size() || day < 0 || day > 150 || s < 0 || s >= beginning.size()
                || what < 0 || what > 1) {
            return -1;
        }
        State now = state(k, day, s);
        return what == 1 ? now.owner() : now.dead() ? 2 : now.up() ? 1 : 0;
    }

    public int credit(int k, int s) {
        if (k < 0 || k > entries.size() || s < 0 || s >= beginning.size()) {
            return -1;
        }
        if (today == 0 || milkingDay == -1 || !state(k, milkingDay, s).up()) {
            return 0;
        }
        int thousandths = 1000;
        for (int d = 1; d <= today; d++) {
            if (!state(k, d, s).up()) {
                thousandths -= rules[0];
            }
        }
        int floor = rules[1] > 1000 ? 1000 : rules[1];
        return milk[s] * (thousandths < floor ? floor : thousandths) / 1000;
    }

    public int part(int k, int owner) {
        if (k < 0 || k > entries.size() || owner < 0 || owner > 11) {
            return -1;
        }
        int sum = 0;
        for (int s = 0; s < beginning.size() && today > 0; s++) {
            int credit = credit(k, s);
            if (credit == 0) {
                continue;
            }
            int[] days = new int[12];
            for (int d = 1; d <= today; d++) {
                days[state(k, d, s).owner()]++;
            }
            sum += credit * days[owner] / today;
            if (state(k, today, s).owner() == owner) {
                sum += credit;
                for (int other = 0; other < 12; other++) {
                    sum -= credit * days[other] / today;
                }
            }
        }
        return sum;
    }

    public int way(int n, int warmth) {
        if (n < 1 || n > 8 || warmth < -30 || warmth > 40) {
            return -1;
        }
        List<Way> all = new ArrayList<>();
        gather(all, n, warmth, upOn(today), new Way(0, 0, List.of()), heights);
        Way best = all.get(0);
        for (Way other : all) {
            if (isBetter(other, best)) {
                best = other;
            }
        }
        latestWay = best.heights();
        return best.hunger();
    }

    private void gather(List<Way> all, int n, int warmth, int up, Way soFar, List<Height> field) {
        int gone = soFar.heights().size();
        if (gone == n) {
            int grass = field.stream().mapToInt(h -> h.grass).sum();
            all.add(new Way(soFar.hunger(), grass, soFar.heights()));
            return;
        }
        int last = gone == 0 ? flock : soFar.heights().get(gone - 1);
        // The highest first, so that nothing hangs on the order in which they are tried.
        for (int h = field.size() - 1; h >= 0; h--) {
            boolean may = last == -1 ? h == 0 : Math.abs(h - last) <= 1;
            if (may) {
                List<Height> next = new ArrayList<>(field.stream().map(Height::copy).toList());
                int lacking = goBy(next, h, warmth, up);
                List<Integer> longer = new ArrayList<>(soFar.heights());
                longer.add(h);
                gather(all, n, warmth, up, new Way(soFar.hunger() + lacking, 0, longer), next);
            }
        }
    }

    private static boolean isBetter(Way one, Way other) {
        if (one.hunger() != other.hunger()) {
            return one.hunger() < other.hunger();
        }
        if (one.grass() != other.grass()) {
            return one.grass() > other.grass();
        }
        for (int i = 0; i < one.heights().size(); i++) {
            int difference = one.heights().get(i) - other.heights().get(i);
            if (difference != 0) {
                return difference < 0;
            }
        }
        return false;
    }

    public int step(int i) {
        return i >= 0 && i < latestWay.size() ? latestWay.get(i) : -1;
    }

    public int grass(int h, int what) {
        if (h < 0 || h >= heights.size()) {
            return -1;
        }
        Height height = heights.get(h);
        return what == 0 ? height.grass : what == 1 ? height.most : what == 2 ? height.growth : -1;
    }

    public long told(int owner, int what) {
        if (owner < 0 || owner > 11) {
            return -1;
        }
        return switch (what) {
            case 0 -> java.util.stream.IntStream.range(0, beginning.size())
                    .mapToObj(s -> state(entries.size(), today, s))
                    .filter(s -> !s.dead() && s.owner() == owner).count();
            case 1 -> cheesesOfAll[owner];
            case 2 -> cheesesOfLatest[owner];
            case 3 -> owed[owner] - done[owner];
            case 4 -> paidTo[owner] - paidIn[owner];
            case 5 -> turn.indexOf(owner);
            default -> -1;
        };
    }

    public int entry(int e, int what) {
        if (e < 0 || e >= entries.size()) {
            return -1;
        }
        Entry entry = entries.get(e);
        return switch (what) {
            case 0 -> entry.what();
            case 1 -> entry.sheep();
            case 2 -> entry.day();
            case 3 -> entry.owner();
            default -> -1;
        };
    }

    public int rule(int what) {
        return what >= 0 && what < 4 ? rules[what] : -1;
    }

    public long count(int what) {
        return switch (what) {
            case 0 -> year;
            case 1 -> today;
            case 2 -> heights.size();
            case 3 -> flock;
            case 4 -> snow;
            case 5 -> hunger;
            case 6 -> beginning.size();
            case 7 -> upOn(today);
            case 8 -> entries.size();
            case 9 -> snow <= 20 ? 1 : 0;
            case 10 -> milkingDay;
            case 11 -> own;
            case 12 -> tape.length();
            case 13 -> eaten;
            default -> -1;
        };
    }
}
