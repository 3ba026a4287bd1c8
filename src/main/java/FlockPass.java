import java.util.Arrays;

/** A flock of many owners on summer grass. The words in capitals are those of the document. */
public final class FlockPass {
    public static final int NONE = -1;

    private static final int OWNERS = 12;
    private static final int MOST_SHEEP = 80;
    private static final int MOST_ENTRIES = 100;
    private static final int LAST_DAY = 150;

    private static final int MOST_HEIGHTS = 6;
    private static final int MOST_GRASS = 60000;
    private static final int MOST_GROWTH = 100;
    private static final int LEAST_WARMTH = -30;
    private static final int MOST_WARMTH = 40;
    private static final int MOST_FALL = 300;
    private static final int OPEN_SNOW = 20;
    private static final int EATEN_BY_ONE = 10;
    private static final int LONGEST_WAY = 8;

    private static final int COME = 0;
    private static final int STRAY = 1;
    private static final int DIE = 2;
    private static final int SELL = 3;

    private static final int MOST_MILK = 5000;
    private static final int MOST_CHEESES = 1000;
    private static final int MOST_WORK = 1000;

    private static final int TAPE_ROOM = 40;
    private static final int FEED_BYTES = 20;
    private static final int LETTERS = 4;
    private static final int MOST_DIGITS = 4;
    private static final int RULE_LOSS = 0;
    private static final int RULE_FLOOR = 1;
    private static final int RULE_WORK = 2;
    private static final int RULE_VALUE = 3;

    private final Tape tape = new Tape();
    private final RuleBook book = new RuleBook();
    private final Pasture pasture = new Pasture();
    private final Planner planner = new Planner();
    private final Register register = new Register();
    private final Trace trace = new Trace();
    private final Dairy dairy = new Dairy();
    private final Ledger ledger = new Ledger();
    private int year = 1;
    private int today = 0;

    public FlockPass() {
    }

    public int feed(int a, int b, int c, int d, int e) {
        if (tape.size + FEED_BYTES > TAPE_ROOM) {
            return NONE;
        }
        tape.append(a);
        tape.append(b);
        tape.append(c);
        tape.append(d);
        tape.append(e);
        return tape.size;
    }

    public int rules(int n) {
        if (!within(n, 0, tape.size)) {
            return NONE;
        }
        int answer = book.read(tape, n);
        tape.size = 0;
        return answer;
    }

    public boolean alp(int n) {
        boolean untouched = year == 1 && today == 0
                && pasture.flockAt == NONE && register.entries == 0;
        if (!untouched || !within(n, 1, MOST_HEIGHTS)) {
            return false;
        }
        pasture.makeHeights(n);
        return true;
    }

    public boolean height(int h, int grass, int most, int growth) {
        if (!pasture.has(h) || !within(grass, 0, MOST_GRASS)
                || !within(most, 1, MOST_GRASS) || !within(growth, 0, MOST_GROWTH)) {
            return false;
        }
        pasture.grassOf[h] = grass;
        pasture.mostOf[h] = most;
        pasture.growthOf[h] = growth;
        return true;
    }

    public int sheep(int owner) {
        if (!isOwner(owner) || register.size >= MOST_SHEEP || register.entries > 0) {
            return NONE;
        }
        return register.add(owner);
    }

    public boolean move(int h) {
        if (!pasture.canReach(h)) {
            return false;
        }
        pasture.flockAt = h;
        return true;
    }

    public int day(int warmth, int fall) {
        if (!isWarmth(warmth) || !within(fall, 0, MOST_FALL) || today >= LAST_DAY) {
            return NONE;
        }
        today++;
        pasture.passDay(warmth, fall, register.upOn(today));
        return today;
    }

    public int act(int what, int sheep, int day, int owner) {
        if (!within(what, COME, SELL) || !register.has(sheep) || !within(day, 1, LAST_DAY)) {
            return NONE;
        }
        if (what == SELL && !isOwner(owner)) {
            return NONE;
        }
        if (register.entries >= MOST_ENTRIES) {
            return NONE;
        }
        return register.enter(what, sheep, day, what == SELL ? owner : NONE, trace);
    }

    public boolean milking(int day) {
        if (!within(day, 1, LAST_DAY) || dairy.milkingDay != NONE) {
            return false;
        }
        dairy.milkingDay = day;
        return true;
    }

    public boolean milk(int sheep, int n) {
        if (!register.has(sheep) || !within(n, 0, MOST_MILK) || dairy.milkingDay == NONE) {
            return false;
        }
        dairy.milkOf[sheep] = n;
        return true;
    }

    public int close(int cheeses) {
        boolean milked = dairy.milkingDay != NONE && dairy.milkingDay <= today;
        if (!within(cheeses, 0, MOST_CHEESES) || pasture.flockAt != NONE || !milked) {
            return NONE;
        }
        dairy.shareOut(register, book, trace, register.entries, today);
        int left = ledger.partCheeses(dairy.partOf, cheeses);
        ledger.oweWork(dairy.partOf, book.numbers[RULE_WORK]);
        ledger.payLosses(register, trace, today, book.numbers[RULE_VALUE]);
        ledger.payIn(dairy.partOf);
        beginNextYear();
        return left;
    }

    public boolean work(int owner, int days) {
        if (!isOwner(owner) || !within(days, 1, MOST_WORK)) {
            return false;
        }
        ledger.balanceOf[owner] -= days;
        return true;
    }

    public int look(int k, int day, int s, int what) {
        if (!register.isKnowing(k) || !within(day, 0, LAST_DAY) || !register.has(s)) {
            return NONE;
        }
        trace.replay(register, s, k, day);
        switch (what) {
            case 0:
                return trace.dead ? 2 : trace.up ? 1 : 0;
            case 1:
                return trace.owner;
            default:
                return NONE;
        }
    }

    public int credit(int k, int s) {
        if (!register.isKnowing(k) || !register.has(s)) {
            return NONE;
        }
        return dairy.creditOf(register, book, trace, k, s, today);
    }

    public int part(int k, int owner) {
        if (!register.isKnowing(k) || !isOwner(owner)) {
            return NONE;
        }
        dairy.shareOut(register, book, trace, k, today);
        return dairy.partOf[owner];
    }

    public int way(int n, int warmth) {
        if (!within(n, 1, LONGEST_WAY) || !isWarmth(warmth)) {
            return NONE;
        }
        return planner.findBest(pasture, register.upOn(today), n, warmth);
    }

    public int step(int i) {
        return within(i, 0, planner.length - 1) ? planner.bestPath[i] : NONE;
    }

    public int grass(int h, int what) {
        if (!pasture.has(h)) {
            return NONE;
        }
        switch (what) {
            case 0:
                return pasture.grassOf[h];
            case 1:
                return pasture.mostOf[h];
            case 2:
                return pasture.growthOf[h];
            default:
                return NONE;
        }
    }

    public long told(int owner, int what) {
        if (!isOwner(owner)) {
            return NONE;
        }
        switch (what) {
            case 0:
                return register.livingOf(owner, today, trace);
            case 1:
                return ledger.cheesesOf[owner];
            case 2:
                return ledger.latestOf[owner];
            case 3:
                return ledger.balanceOf[owner];
            case 4:
                return ledger.moneyOf[owner];
            case 5:
                return ledger.placeOf(owner);
            default:
                return NONE;
        }
    }

    public int entry(int e, int what) {
        if (!within(e, 0, register.entries - 1)) {
            return NONE;
        }
        switch (what) {
            case 0:
                return register.actOf[e];
            case 1:
                return register.sheepOf[e];
            case 2:
                return register.dayOf[e];
            case 3:
                return register.buyerOf[e];
            default:
                return NONE;
        }
    }

    public int rule(int what) {
        return within(what, 0, LETTERS - 1) ? book.numbers[what] : NONE;
    }

    public long count(int what) {
        switch (what) {
            case 0:
                return year;
            case 1:
                return today;
            case 2:
                return pasture.heights;
            case 3:
                return pasture.flockAt;
            case 4:
                return pasture.snow;
            case 5:
                return pasture.hunger;
            case 6:
                return register.size;
            case 7:
                return register.upOn(today);
            case 8:
                return register.entries;
            case 9:
                return pasture.isOpen() ? 1 : 0;
            case 10:
                return dairy.milkingDay;
            case 11:
                return ledger.ownPaid;
            case 12:
                return tape.size;
            case 13:
                return pasture.eaten;
            default:
                return NONE;
        }
    }

    private void beginNextYear() {
        register.beginYear(today, trace);
        dairy.beginYear();
        pasture.hunger = 0;
        today = 0;
        year++;
    }

    private static boolean within(int n, int least, int most) {
        return n >= least && n <= most;
    }

    private static boolean isOwner(int owner) {
        return within(owner, 0, OWNERS - 1);
    }

    private static boolean isWarmth(int warmth) {
        return within(warmth, LEAST_WARMTH, MOST_WARMTH);
    }

    /** Bytes that wait to be read as RULES. */
    private static final class Tape {
        final int[] bytes = new int[TAPE_ROOM];
        int size = 0;

        void append(int word) {
            for (int shift = 24; shift >= 0 && size < TAPE_ROOM; shift -= 8) {
                bytes[size] = (word >>> shift) & 255;
                size++;
            }
        }
    }

    /** The numbers that RULES tell, and the reader of their TEXT. */
    private static final class RuleBook {
        private static final int NO_LETTER = 1;
        private static final int NO_DIGIT = 2;
        private static final int FIFTH_DIGIT = 3;
        private static final int NO_SEMICOLON = 4;

        final int[] numbers = new int[LETTERS];
        // A faulty TEXT must not touch the RULES, so its numbers are gathered here first.
        private final int[] draft = new int[LETTERS];

        RuleBook() {
            setFirst(numbers);
        }

        int read(Tape tape, int n) {
            setFirst(draft);
            int at = 0;
            while (at < n) {
                int letter = letterOf(tape.bytes[at]);
                if (letter == NONE) {
                    return fault(NO_LETTER, at);
                }
                int end = digitsEnd(tape, n, at + 1);
                if (end == at + 1) {
                    return fault(NO_DIGIT, end);
                }
                draft[letter] = numberAt(tape, at + 1, end);
                if (end >= n) {
                    System.arraycopy(draft, 0, numbers, 0, LETTERS);
                    return 0;
                }
                if (isDigit(tape.bytes[end])) {
                    return fault(FIFTH_DIGIT, end);
                }
                if (tape.bytes[end] != ';') {
                    return fault(NO_SEMICOLON, end);
                }
                at = end + 1;
            }
            // Only the end of the TEXT where a CLAUSE should begin comes here.
            return fault(NO_LETTER, at);
        }

        private static void setFirst(int[] row) {
            row[RULE_LOSS] = 5;
            row[RULE_FLOOR] = 500;
            row[RULE_WORK] = 40;
            row[RULE_VALUE] = 90;
        }

        private static int fault(int number, int place) {
            return 100 * number + place;
        }

        private static int letterOf(int sign) {
            switch (sign) {
                case 'l':
                    return RULE_LOSS;
                case 'm':
                    return RULE_FLOOR;
                case 'w':
                    return RULE_WORK;
                case 'v':
                    return RULE_VALUE;
                default:
                    return NONE;
            }
        }

        private static boolean isDigit(int sign) {
            return within(sign, '0', '9');
        }

        /** The place behind the digits that begin at from, four of them at most. */
        private static int digitsEnd(Tape tape, int n, int from) {
            int bound = Math.min(n, from + MOST_DIGITS);
            int at = from;
            while (at < bound && isDigit(tape.bytes[at])) {
                at++;
            }
            return at;
        }

        private static int numberAt(Tape tape, int from, int end) {
            int number = 0;
            for (int at = from; at < end; at++) {
                number = 10 * number + tape.bytes[at] - '0';
            }
            return number;
        }
    }

    /** THE ALP with its HEIGHTS, THE PASS and the place of THE FLOCK. */
    private static final class Pasture {
        final int[] grassOf = new int[MOST_HEIGHTS];
        final int[] mostOf = new int[MOST_HEIGHTS];
        final int[] growthOf = new int[MOST_HEIGHTS];
        int heights;
        int snow = 0;
        int flockAt = NONE;
        int hunger = 0;
        long eaten = 0;

        Pasture() {
            makeHeights(1);
        }

        void makeHeights(int n) {
            heights = n;
            Arrays.fill(grassOf, 0);
            Arrays.fill(mostOf, 1);
            Arrays.fill(growthOf, 0);
        }

        boolean has(int h) {
            return within(h, 0, heights - 1);
        }

        boolean isOpen() {
            return snow <= OPEN_SNOW;
        }

        boolean canReach(int h) {
            if (h != NONE && !has(h)) {
                return false;
            }
            // DOWN is -1, so it is beside HEIGHT 0 as the HEIGHTS are beside each other.
            boolean beside = Math.abs(h - flockAt) == 1;
            boolean overPass = h == NONE || flockAt == NONE;
            return beside && (!overPass || isOpen());
        }

        void passDay(int warmth, int fall, int mouths) {
            snow += fall;
            if (warmth > 0) {
                snow = Math.max(0, snow - 4 * warmth);
            }
            for (int h = 0; h < heights; h++) {
                grassOf[h] = grown(grassOf[h], mostOf[h], gainOn(h, warmth));
            }
            if (flockAt != NONE) {
                graze(EATEN_BY_ONE * mouths);
            }
        }

        private void graze(int wanted) {
            int taken = Math.min(wanted, grassOf[flockAt]);
            grassOf[flockAt] -= taken;
            eaten += taken;
            hunger += wanted - taken;
        }

        int gainOn(int h, int warmth) {
            return growthOf[h] * (warmth - 3 * h);
        }

        static int grown(int had, int most, int gain) {
            // GRASS above MOST stays: it does not shrink to MOST.
            if (gain <= 0 || had >= most) {
                return had;
            }
            return Math.min(had + gain, most);
        }
    }

    /** Looks for THE BEST WAY by trying all of them, the least HEIGHTS first. */
    private static final class Planner {
        final int[] bestPath = new int[LONGEST_WAY];
        int length = 0;
        private final int[] path = new int[LONGEST_WAY];
        // The GRASS of all HEIGHTS ahead of each DAY of the path, row by row.
        private final int[] rows = new int[(LONGEST_WAY + 1) * MOST_HEIGHTS];
        private final int[] mostOf = new int[MOST_HEIGHTS];
        private final int[] gainOf = new int[MOST_HEIGHTS];
        private int heights = 0;
        private int wanted = 0;
        private int bestHunger = 0;
        private int bestGrass = 0;

        int findBest(Pasture pasture, int mouths, int n, int warmth) {
            heights = pasture.heights;
            for (int h = 0; h < heights; h++) {
                rows[h] = pasture.grassOf[h];
                mostOf[h] = pasture.mostOf[h];
                gainOf[h] = pasture.gainOn(h, warmth);
            }
            length = n;
            wanted = EATEN_BY_ONE * mouths;
            bestHunger = Integer.MAX_VALUE;
            bestGrass = 0;
            explore(this, 0, pasture.flockAt, 0);
            return bestHunger;
        }

        private static void explore(Planner p, int depth, int from, int hunger) {
            // HUNGER never gets less, so such a path can't become the best any more.
            if (hunger > p.bestHunger) {
                return;
            }
            if (depth >= p.length) {
                p.judge(hunger);
                return;
            }
            int highest = Math.min(p.heights - 1, from + 1);
            for (int h = Math.max(0, from - 1); h <= highest; h++) {
                p.path[depth] = h;
                int lacking = p.passDay(depth, h);
                explore(p, depth + 1, h, hunger + lacking);
            }
        }

        /** Makes the row behind a DAY at HEIGHT at; answers the HUNGER of that DAY. */
        private int passDay(int depth, int at) {
            int row = depth * MOST_HEIGHTS;
            int next = row + MOST_HEIGHTS;
            for (int h = 0; h < heights; h++) {
                rows[next + h] = Pasture.grown(rows[row + h], mostOf[h], gainOf[h]);
            }
            int taken = Math.min(wanted, rows[next + at]);
            rows[next + at] -= taken;
            return wanted - taken;
        }

        private void judge(int hunger) {
            int row = length * MOST_HEIGHTS;
            int total = 0;
            for (int h = 0; h < heights; h++) {
                total += rows[row + h];
            }
            // Of like paths the first one tried is the least, so it stays.
            if (hunger < bestHunger || hunger == bestHunger && total > bestGrass) {
                bestHunger = hunger;
                bestGrass = total;
                System.arraycopy(path, 0, bestPath, 0, length);
            }
        }
    }

    /** The SHEEP as the YEAR began, and the ENTRIES told of them. */
    private static final class Register {
        final int[] firstOwnerOf = new int[MOST_SHEEP];
        // DEAD since an earlier YEAR: the number stays, the SHEEP is gone.
        final boolean[] gone = new boolean[MOST_SHEEP];
        int size = 0;
        final int[] actOf = new int[MOST_ENTRIES];
        final int[] sheepOf = new int[MOST_ENTRIES];
        final int[] dayOf = new int[MOST_ENTRIES];
        final int[] buyerOf = new int[MOST_ENTRIES];
        // ENTRIES as they are done: by DAYS, of one DAY as they were told.
        final int[] order = new int[MOST_ENTRIES];
        int entries = 0;

        boolean has(int s) {
            return within(s, 0, size - 1);
        }

        boolean isKnowing(int k) {
            return within(k, 0, entries);
        }

        int add(int owner) {
            firstOwnerOf[size] = owner;
            size++;
            return size - 1;
        }

        int enter(int what, int s, int day, int buyer, Trace trace) {
            int e = entries;
            actOf[e] = what;
            sheepOf[e] = s;
            dayOf[e] = day;
            buyerOf[e] = buyer;
            int place = putInOrder(e);
            entries++;
            if (!trace.replay(this, s, entries, LAST_DAY)) {
                takeBack(place);
                return NONE;
            }
            return e;
        }

        private int putInOrder(int e) {
            int place = entries;
            while (place > 0 && dayOf[order[place - 1]] > dayOf[e]) {
                order[place] = order[place - 1];
                place--;
            }
            order[place] = e;
            return place;
        }

        private void takeBack(int place) {
            entries--;
            for (int i = place; i < entries; i++) {
                order[i] = order[i + 1];
            }
        }

        int upOn(int day) {
            // All ENTRIES FIT, so each COME is one more and each STRAY or DIE one less.
            int up = 0;
            for (int i = 0; i < entries; i++) {
                int e = order[i];
                if (dayOf[e] > day) {
                    break;
                }
                if (actOf[e] == COME) {
                    up++;
                } else if (actOf[e] != SELL) {
                    up--;
                }
            }
            return up;
        }

        int livingOf(int owner, int end, Trace trace) {
            int living = 0;
            for (int s = 0; s < size; s++) {
                trace.replay(this, s, entries, end);
                if (!trace.dead && trace.owner == owner) {
                    living++;
                }
            }
            return living;
        }

        void beginYear(int end, Trace trace) {
            for (int s = 0; s < size; s++) {
                trace.replay(this, s, entries, end);
                firstOwnerOf[s] = trace.owner;
                gone[s] = trace.dead;
            }
            entries = 0;
        }
    }

    /** What became of one SHEEP from the beginning of the YEAR to a DAY, by a KNOWING. */
    private static final class Trace {
        int owner = 0;
        boolean up = false;
        boolean dead = false;
        int daysUp = 0;
        final int[] daysHad = new int[OWNERS];
        private int firstUntold = 1;

        /** Follows SHEEP s to the end of DAY last; false where an ENTRY does not FIT. */
        boolean replay(Register register, int s, int k, int last) {
            begin(register.firstOwnerOf[s], register.gone[s]);
            for (int i = 0; i < register.entries; i++) {
                int e = register.order[i];
                if (register.dayOf[e] > last) {
                    break;
                }
                if (e >= k || register.sheepOf[e] != s) {
                    continue;
                }
                if (!fits(register.actOf[e], register.buyerOf[e])) {
                    return false;
                }
                tallyBefore(register.dayOf[e]);
                follow(register.actOf[e], register.buyerOf[e]);
            }
            tallyBefore(last + 1);
            return true;
        }

        private void begin(int firstOwner, boolean gone) {
            owner = firstOwner;
            up = false;
            dead = gone;
            daysUp = 0;
            Arrays.fill(daysHad, 0);
            firstUntold = 1;
        }

        private boolean fits(int what, int buyer) {
            switch (what) {
                case COME:
                    return !up && !dead;
                case STRAY:
                case DIE:
                    return up;
                default:
                    return !dead && buyer != owner;
            }
        }

        private void follow(int what, int buyer) {
            if (what == SELL) {
                owner = buyer;
                return;
            }
            up = what == COME;
            dead = what == DIE;
        }

        /** Counts the DAYS ahead of day that were not counted: nothing has changed on them. */
        private void tallyBefore(int day) {
            int days = day - firstUntold;
            if (days <= 0) {
                return;
            }
            daysHad[owner] += days;
            if (up) {
                daysUp += days;
            }
            firstUntold = day;
        }
    }

    /** THE MILKING, the MILK, and what of it each OWNER has. */
    private static final class Dairy {
        final int[] milkOf = new int[MOST_SHEEP];
        final int[] partOf = new int[OWNERS];
        int milkingDay = NONE;

        void beginYear() {
            Arrays.fill(milkOf, 0);
            milkingDay = NONE;
        }

        int creditOf(Register register, RuleBook book, Trace trace, int k, int s, int end) {
            if (end < 1 || milkingDay == NONE || milkOf[s] == 0) {
                return 0;
            }
            trace.replay(register, s, k, milkingDay);
            if (!trace.up) {
                return 0;
            }
            trace.replay(register, s, k, end);
            int lost = book.numbers[RULE_LOSS] * (end - trace.daysUp);
            int floor = Math.min(book.numbers[RULE_FLOOR], 1000);
            return milkOf[s] * Math.max(1000 - lost, floor) / 1000;
        }

        /** Fills partOf with THE PARTS of all OWNERS by KNOWING k. */
        void shareOut(Register register, RuleBook book, Trace trace, int k, int end) {
            Arrays.fill(partOf, 0);
            for (int s = 0; s < register.size; s++) {
                int credit = creditOf(register, book, trace, k, s, end);
                if (credit > 0) {
                    trace.replay(register, s, k, end);
                    divide(credit, trace, end);
                }
            }
        }

        private void divide(int credit, Trace trace, int end) {
            if (end < 1) {
                return;
            }
            int left = credit;
            for (int owner = 0; owner < OWNERS; owner++) {
                int share = credit * trace.daysHad[owner] / end;
                partOf[owner] += share;
                left -= share;
            }
            partOf[trace.owner] += left;
        }
    }

    /** What the OWNERS have and owe over all YEARS: CHEESES, WORK, THE PURSE, THE TURN. */
    private static final class Ledger {
        final long[] cheesesOf = new long[OWNERS];
        final int[] latestOf = new int[OWNERS];
        final long[] balanceOf = new long[OWNERS];
        final long[] moneyOf = new long[OWNERS];
        long ownPaid = 0;
        private final int[] turn = new int[OWNERS];
        private long paidOut = 0;

        Ledger() {
            for (int owner = 0; owner < OWNERS; owner++) {
                turn[owner] = owner;
            }
        }

        int placeOf(int owner) {
            for (int place = 0; place < OWNERS; place++) {
                if (turn[place] == owner) {
                    return place;
                }
            }
            return NONE;
        }

        /** Gives out the CHEESES of the YEAR; answers how many nobody has. */
        int partCheeses(int[] partOf, int cheeses) {
            int left = cheeses;
            for (int owner = 0; owner < OWNERS; owner++) {
                latestOf[owner] = (int) shareOf(cheeses, owner, partOf);
                left -= latestOf[owner];
            }
            // Rounding leaves fewer than there are OWNERS; without PARTS nothing is given at all.
            for (int given = 0; given < OWNERS && left > 0; given++) {
                int owner = takeTurn(partOf);
                if (owner == NONE) {
                    break;
                }
                latestOf[owner]++;
                left--;
            }
            for (int owner = 0; owner < OWNERS; owner++) {
                cheesesOf[owner] += latestOf[owner];
            }
            return left;
        }

        /** The first of THE TURN that has a PART goes to its end; NONE if nobody has one. */
        private int takeTurn(int[] partOf) {
            int place = 0;
            while (place < OWNERS && partOf[turn[place]] == 0) {
                place++;
            }
            if (place >= OWNERS) {
                return NONE;
            }
            int owner = turn[place];
            for (int i = place; i < OWNERS - 1; i++) {
                turn[i] = turn[i + 1];
            }
            turn[OWNERS - 1] = owner;
            return owner;
        }

        void oweWork(int[] partOf, int perThousand) {
            for (int owner = 0; owner < OWNERS; owner++) {
                balanceOf[owner] += ((long) perThousand * partOf[owner] + 999) / 1000;
            }
        }

        /** Pays for each SHEEP that died or strayed in the YEAR; those gone earlier were paid. */
        void payLosses(Register register, Trace trace, int end, int value) {
            paidOut = 0;
            for (int s = 0; s < register.size; s++) {
                if (register.gone[s]) {
                    continue;
                }
                trace.replay(register, s, register.entries, end);
                boolean strayed = trace.daysUp > 0 && !trace.up;
                if (trace.dead || strayed) {
                    moneyOf[trace.owner] += value;
                    paidOut += value;
                }
            }
        }

        void payIn(int[] partOf) {
            long lacking = paidOut;
            for (int owner = 0; owner < OWNERS; owner++) {
                long share = shareOf(paidOut, owner, partOf);
                moneyOf[owner] -= share;
                lacking -= share;
            }
            ownPaid += lacking;
        }

        private static long shareOf(long whole, int owner, int[] partOf) {
            long all = 0;
            for (int other = 0; other < OWNERS; other++) {
                all += partOf[other];
            }
            return all > 0 ? whole * partOf[owner] / all : 0;
        }
    }
}
