/** Promises 1 (a new object), 4 (alp), 5 (height), 7 (move), 8 (day), 19 (grass). */
public final class AlpTest {
    public static void main(String[] args) {
        newObject();
        alpAsksForTheBeginning();
        alpMakesHeightsAsAtFirst();
        heightKeepsItsLimits();
        moveGoesBeside();
        passShutsAboveTwenty();
        snowFallsAndMelts();
        grassGrowsToMost();
        flockEatsAndHungers();
        dayKeepsItsLimits();
        Due.end();
    }

    private static void newObject() {
        FlockPass x = new FlockPass();
        long[] want = {1, 0, 1, -1, 0, 0, 0, 0, 0, 1, -1, 0, 0, 0};
        for (int what = 0; what < want.length; what++) {
            Due.is("count(" + what + ") at first", x.count(what), want[what]);
        }
        heightIs(x, 0, 0, 1, 0);
        heightIs(x, 1, -1, -1, -1);
        Due.is("step at first", x.step(0), -1);
        Due.is("no sheep", x.look(0, 0, 0, 0), -1);
        for (int owner = 0; owner < 12; owner++) {
            for (int what = 0; what < 5; what++) {
                Due.is("told at first", x.told(owner, what), 0);
            }
            Due.is("turn at first", x.told(owner, 5), owner);
        }
    }

    private static void alpAsksForTheBeginning() {
        FlockPass x = new FlockPass();
        Due.is("alp(0)", x.alp(0), false);
        Due.is("alp(7)", x.alp(7), false);
        Due.is("alp(-1)", x.alp(-1), false);
        Due.is("alp(6)", x.alp(6), true);
        x.sheep(0);
        Due.is("alp with sheep", x.alp(2), true);
        x.move(0);
        Due.is("alp with the flock up", x.alp(3), false);
        x.move(-1);
        Due.is("alp with the flock down again", x.alp(3), true);
        x.act(0, 0, 1, 0);
        Due.is("alp with entries", x.alp(4), false);
        Due.is("heights stay", x.count(2), 3);
        FlockPass y = new FlockPass();
        y.day(0, 0);
        Due.is("alp behind a day", y.alp(2), false);
        y.milking(1);
        y.close(0);
        Due.is("alp in year 2", y.alp(2), false);
        Due.is("one height", y.count(2), 1);
    }

    private static void alpMakesHeightsAsAtFirst() {
        FlockPass x = new FlockPass();
        x.alp(6);
        for (int h = 0; h < 6; h++) {
            Due.is("height", x.height(h, 7 + h, 8 + h, 9 + h), true);
            heightIs(x, h, 7 + h, 8 + h, 9 + h);
        }
        x.alp(2);
        heightIs(x, 0, 0, 1, 0);
        heightIs(x, 1, 0, 1, 0);
        heightIs(x, 2, -1, -1, -1);
        x.alp(6);
        heightIs(x, 5, 0, 1, 0);
        Due.is("alp(1)", x.alp(1), true);
        heightIs(x, 0, 0, 1, 0);
        heightIs(x, 1, -1, -1, -1);
    }

    private static void heightKeepsItsLimits() {
        FlockPass x = new FlockPass();
        x.alp(2);
        Due.is("least", x.height(0, 0, 1, 0), true);
        Due.is("most", x.height(1, 60000, 60000, 100), true);
        heightIs(x, 1, 60000, 60000, 100);
        Due.is("grass above most", x.height(1, 60000, 1, 100), true);
        heightIs(x, 1, 60000, 1, 100);
        int[][] bad = {{-1, 1, 1, 1}, {2, 1, 1, 1}, {0, -1, 1, 1}, {0, 60001, 1, 1}, {0, 1, 0, 1},
            {0, 1, 60001, 1}, {0, 1, 1, -1}, {0, 1, 1, 101}, {Integer.MIN_VALUE, 1, 1, 1}};
        for (int[] b : bad) {
            Due.is("bad height", x.height(b[0], b[1], b[2], b[3]), false);
        }
        heightIs(x, 0, 0, 1, 0);
        Due.is("grass(0, -1)", x.grass(0, -1), -1);
        Due.is("grass(0, 3)", x.grass(0, 3), -1);
        Due.is("grass(-1, 0)", x.grass(-1, 0), -1);
        Due.is("grass(2, 0)", x.grass(2, 0), -1);
        Due.is("grass(max, 0)", x.grass(Integer.MAX_VALUE, 0), -1);
        x.day(0, 0);
        Due.is("height at any time", x.height(0, 5, 6, 7), true);
    }

    private static void moveGoesBeside() {
        FlockPass x = new FlockPass();
        x.alp(4);
        Due.is("down to down", x.move(-1), false);
        Due.is("down to 1", x.move(1), false);
        Due.is("down to -2", x.move(-2), false);
        Due.is("down to 0", x.move(0), true);
        Due.is("0 to 0", x.move(0), false);
        Due.is("0 to 2", x.move(2), false);
        Due.is("0 to 1", x.move(1), true);
        Due.is("1 to down", x.move(-1), false);
        Due.is("1 to 2", x.move(2), true);
        Due.is("2 to 3", x.move(3), true);
        Due.is("3 to 4", x.move(4), false);
        Due.is("3 to max", x.move(Integer.MAX_VALUE), false);
        Due.is("3 to min", x.move(Integer.MIN_VALUE), false);
        Due.is("at 3", x.count(3), 3);
        Due.is("3 to 1", x.move(1), false);
        Due.is("3 to 2", x.move(2), true);
        x.move(1);
        x.move(0);
        Due.is("0 to down", x.move(-1), true);
        Due.is("down", x.count(3), -1);
    }

    private static void passShutsAboveTwenty() {
        FlockPass x = new FlockPass();
        x.alp(2);
        x.day(0, 21);
        Due.is("shut", x.count(9), 0);
        Due.is("no way up", x.move(0), false);
        x.day(1, 3);
        Due.is("open at 20", x.count(9), 1);
        Due.is("up", x.move(0), true);
        x.day(0, 1);
        Due.is("no way down", x.move(-1), false);
        Due.is("but further up", x.move(1), true);
        Due.is("and back", x.move(0), true);
        Due.is("close with the flock up", x.close(0), -1);
    }

    private static void snowFallsAndMelts() {
        FlockPass x = new FlockPass();
        snow(x, 0, 300, 300);
        snow(x, -30, 300, 600);
        snow(x, 1, 0, 596);
        snow(x, 40, 100, 536);
        snow(x, 40, 0, 376);
        snow(x, 40, 0, 216);
        snow(x, 40, 0, 56);
        snow(x, 15, 3, 0);
        snow(x, 1, 4, 0);
        snow(x, 1, 5, 1);
        snow(x, -1, 0, 1);
    }

    private static void grassGrowsToMost() {
        FlockPass x = new FlockPass();
        x.alp(3);
        x.height(0, 0, 1000, 100);
        x.height(1, 500, 400, 100);
        x.height(2, 10, 60000, 3);
        x.day(0, 0);
        heightIs(x, 0, 0, 1000, 100);
        x.day(1, 0);
        heightIs(x, 0, 100, 1000, 100);
        x.day(7, 0);
        heightIs(x, 0, 800, 1000, 100);
        heightIs(x, 2, 13, 60000, 3);
        x.day(6, 0);
        heightIs(x, 0, 1000, 1000, 100);
        heightIs(x, 1, 500, 400, 100);
        heightIs(x, 2, 13, 60000, 3);
        x.day(-30, 0);
        heightIs(x, 0, 1000, 1000, 100);
        x.day(40, 0);
        heightIs(x, 2, 115, 60000, 3);
        x.height(1, 399, 400, 1);
        x.day(40, 0);
        heightIs(x, 1, 400, 400, 1);
        x.height(0, 0, 9, 1);
        x.day(1, 0);
        heightIs(x, 0, 1, 9, 1);
        FlockPass y = new FlockPass();
        y.alp(6);
        y.height(5, 0, 100, 2);
        y.day(15, 0);
        heightIs(y, 5, 0, 100, 2);
        y.day(16, 0);
        heightIs(y, 5, 2, 100, 2);
    }

    private static void flockEatsAndHungers() {
        FlockPass x = new FlockPass();
        x.alp(2);
        x.height(0, 45, 100, 1);
        x.height(1, 100, 100, 0);
        for (int s = 0; s < 3; s++) {
            x.sheep(s);
        }
        for (int s = 0; s < 3; s++) {
            x.act(0, s, 1 + s, 0);
        }
        x.day(0, 0);
        Due.is("down: nothing is eaten", x.grass(0, 0), 45);
        Due.is("down: no hunger", x.count(5), 0);
        x.move(0);
        x.day(0, 0);
        Due.is("two eat on day 2", x.grass(0, 0), 25);
        x.day(2, 0);
        Due.is("grass grows ahead of eating", x.grass(0, 0), 0);
        Due.is("what lacks is hunger", x.count(5), 3);
        Due.is("eaten", x.count(13), 47);
        x.act(1, 0, 2, 0);
        x.move(1);
        x.day(0, 0);
        Due.is("as known now", x.grass(1, 0), 80);
        Due.is("the past is not eaten anew", x.count(13), 67);
        x.act(2, 1, 5, 0);
        x.day(0, 0);
        Due.is("one is left", x.grass(1, 0), 70);
        Due.is("hunger of the year", x.count(5), 3);
        x.move(0);
        x.move(-1);
        x.milking(1);
        x.close(0);
        Due.is("no hunger in the next year", x.count(5), 0);
        Due.is("eaten in all years", x.count(13), 77);
        Due.is("grass stays", x.grass(1, 0), 70);
    }

    private static void dayKeepsItsLimits() {
        FlockPass x = new FlockPass();
        Due.is("day(-31, 0)", x.day(-31, 0), -1);
        Due.is("day(41, 0)", x.day(41, 0), -1);
        Due.is("day(0, -1)", x.day(0, -1), -1);
        Due.is("day(0, 301)", x.day(0, 301), -1);
        Due.is("no day", x.count(1), 0);
        Due.is("no snow", x.count(4), 0);
        for (int d = 1; d <= 150; d++) {
            Due.is("day", x.day(d % 2 == 0 ? 40 : -30, d % 3 == 0 ? 300 : 0), d);
        }
        long snow = x.count(4);
        Due.is("the 151st", x.day(0, 1), -1);
        Due.is("snow stays", x.count(4), snow);
        Due.is("day 150", x.count(1), 150);
        x.milking(150);
        Due.is("closed", x.close(0), 0);
        Due.is("snow stays in the next year", x.count(4), snow);
        Due.is("day 1 again", x.day(0, 0), 1);
    }

    private static void snow(FlockPass x, int warmth, int fall, long want) {
        x.day(warmth, fall);
        Due.is("snow behind " + warmth + ", " + fall, x.count(4), want);
    }

    private static void heightIs(FlockPass x, int h, int grass, int most, int growth) {
        Due.is("grass of " + h, x.grass(h, 0), grass);
        Due.is("most of " + h, x.grass(h, 1), most);
        Due.is("growth of " + h, x.grass(h, 2), growth);
    }
}
