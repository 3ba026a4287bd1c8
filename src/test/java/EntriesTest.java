/** Promises 6 (sheep), 9 (act), 14 (look), 21 (entry). */
public final class EntriesTest {
    private static final int COME = 0;
    private static final int STRAY = 1;
    private static final int DIE = 2;
    private static final int SELL = 3;

    public static void main(String[] args) {
        sheepAreNumbered();
        actsMustFit();
        lateActsMustFitWithAll();
        oneDayGoesByEntries();
        actRefusesOthers();
        hundredEntries();
        lookByKnowing();
        lookRefusesOthers();
        entriesAreTold();
        deadStayDead();
        Due.end();
    }

    private static void sheepAreNumbered() {
        FlockPass x = new FlockPass();
        Due.is("sheep(-1)", x.sheep(-1), -1);
        Due.is("sheep(12)", x.sheep(12), -1);
        for (int s = 0; s < 80; s++) {
            Due.is("sheep", x.sheep(s % 12), s);
        }
        Due.is("the 81st", x.sheep(0), -1);
        Due.is("80 sheep", x.count(6), 80);
        Due.is("owner of 79", x.look(0, 0, 79, 1), 7);
        FlockPass y = new FlockPass();
        y.sheep(11);
        y.day(0, 0);
        Due.is("behind a day", y.sheep(10), 1);
        y.act(COME, 0, 1, 0);
        Due.is("with entries", y.sheep(1), -1);
        Due.is("2 sheep", y.count(6), 2);
        y.milking(1);
        y.close(0);
        Due.is("no entries in the next year", y.sheep(1), 2);
    }

    private static void actsMustFit() {
        FlockPass x = new FlockPass();
        x.sheep(3);
        Due.is("stray, not up", x.act(STRAY, 0, 1, 0), -1);
        Due.is("die, not up", x.act(DIE, 0, 1, 0), -1);
        Due.is("sell to itself", x.act(SELL, 0, 1, 3), -1);
        Due.is("sell, not up", x.act(SELL, 0, 5, 4), 0);
        Due.is("sell to itself behind", x.act(SELL, 0, 6, 4), -1);
        Due.is("come", x.act(COME, 0, 10, 0), 1);
        Due.is("come twice", x.act(COME, 0, 11, 0), -1);
        Due.is("sell, up", x.act(SELL, 0, 12, 3), 2);
        Due.is("stray", x.act(STRAY, 0, 20, 0), 3);
        Due.is("stray twice", x.act(STRAY, 0, 21, 0), -1);
        Due.is("die, strayed", x.act(DIE, 0, 21, 0), -1);
        Due.is("come again", x.act(COME, 0, 30, 0), 4);
        Due.is("die", x.act(DIE, 0, 40, 0), 5);
        Due.is("come, dead", x.act(COME, 0, 41, 0), -1);
        Due.is("stray, dead", x.act(STRAY, 0, 41, 0), -1);
        Due.is("die, dead", x.act(DIE, 0, 41, 0), -1);
        Due.is("sell, dead", x.act(SELL, 0, 41, 9), -1);
        Due.is("sell on the day it died", x.act(SELL, 0, 40, 9), -1);
        Due.is("sell a day ahead", x.act(SELL, 0, 39, 9), 6);
        Due.is("refused ones are no entries", x.count(8), 7);
    }

    private static void lateActsMustFitWithAll() {
        FlockPass x = new FlockPass();
        x.sheep(0);
        x.sheep(1);
        x.act(COME, 0, 50, 0);
        x.act(STRAY, 0, 60, 0);
        x.act(SELL, 0, 70, 5);
        Due.is("come ahead of come", x.act(COME, 0, 40, 0), -1);
        Due.is("stray ahead of stray", x.act(STRAY, 0, 55, 0), -1);
        Due.is("die ahead of stray", x.act(DIE, 0, 55, 0), -1);
        Due.is("die on the day it strayed", x.act(DIE, 0, 60, 0), -1);
        Due.is("sold ahead to the later buyer", x.act(SELL, 0, 10, 5), -1);
        Due.is("sold ahead to another", x.act(SELL, 0, 10, 6), 3);
        Due.is("and back to the first", x.act(SELL, 0, 20, 0), 4);
        Due.is("come between", x.act(COME, 0, 65, 0), 5);
        Due.is("stray between", x.act(STRAY, 0, 63, 0), -1);
        Due.is("other sheep don't matter", x.act(COME, 1, 55, 0), 6);
        Due.is("stray behind", x.act(STRAY, 0, 66, 0), 7);
        Due.is("up on 65", x.look(8, 65, 0, 0), 1);
        Due.is("not on 66", x.look(8, 66, 0, 0), 0);
        Due.is("had by 6", x.look(8, 10, 0, 1), 6);
        Due.is("had by 0", x.look(8, 20, 0, 1), 0);
        Due.is("had by 5", x.look(8, 150, 0, 1), 5);
    }

    private static void oneDayGoesByEntries() {
        FlockPass x = new FlockPass();
        x.sheep(0);
        x.act(COME, 0, 5, 0);
        x.act(STRAY, 0, 5, 0);
        x.act(COME, 0, 5, 0);
        Due.is("come, stray, come", x.look(3, 5, 0, 0), 1);
        Due.is("come, stray", x.look(2, 5, 0, 0), 0);
        Due.is("come", x.look(1, 5, 0, 0), 1);
        x.act(SELL, 0, 5, 1);
        Due.is("sold to the same", x.act(SELL, 0, 5, 1), -1);
        x.act(SELL, 0, 5, 0);
        Due.is("back on one day", x.look(5, 5, 0, 1), 0);
        x.act(DIE, 0, 5, 0);
        Due.is("dead", x.look(6, 5, 0, 0), 2);
        Due.is("a day ahead", x.look(6, 4, 0, 0), 0);
    }

    private static void actRefusesOthers() {
        FlockPass x = new FlockPass();
        Due.is("no sheep", x.act(COME, 0, 1, 0), -1);
        x.sheep(0);
        int[][] bad = {{-1, 0, 1, 0}, {4, 0, 1, 0}, {COME, -1, 1, 0}, {COME, 1, 1, 0}, {COME, 0, 0, 0},
            {COME, 0, -1, 0}, {COME, 0, 151, 0}, {SELL, 0, 1, -1}, {SELL, 0, 1, 12},
            {Integer.MIN_VALUE, 0, 1, 0}, {COME, Integer.MAX_VALUE, 1, 0}};
        for (int[] b : bad) {
            Due.is("bad act", x.act(b[0], b[1], b[2], b[3]), -1);
        }
        Due.is("no entries", x.count(8), 0);
        Due.is("owner is not looked at", x.act(COME, 0, 150, 99), 0);
        Due.is("nor a negative one", x.act(STRAY, 0, 150, -99), 1);
        Due.is("not told either", x.entry(0, 3), -1);
    }

    private static void hundredEntries() {
        FlockPass x = new FlockPass();
        x.sheep(0);
        for (int e = 0; e < 100; e++) {
            // From the last DAY back, so that each is put ahead of all others.
            Due.is("entry", x.act(SELL, 0, 150 - e, 1 + e % 2), e);
        }
        Due.is("the 101st", x.act(COME, 0, 1, 0), -1);
        Due.is("100 entries", x.count(8), 100);
        Due.is("knowing 100", x.look(100, 51, 0, 1), 2);
        Due.is("knowing 99", x.look(99, 51, 0, 1), 0);
        Due.is("the last", x.entry(99, 2), 51);
        Due.is("none behind it", x.entry(100, 2), -1);
    }

    private static void lookByKnowing() {
        FlockPass x = new FlockPass();
        x.sheep(7);
        x.act(COME, 0, 20, 0);
        x.act(DIE, 0, 30, 0);
        x.act(SELL, 0, 10, 8);
        for (int day = 0; day <= 150; day++) {
            Due.is("knows nothing", x.look(0, day, 0, 0), 0);
            Due.is("knows one", x.look(1, day, 0, 0), day < 20 ? 0 : 1);
            Due.is("knows two", x.look(2, day, 0, 0), day < 20 ? 0 : day < 30 ? 1 : 2);
            Due.is("who, knows two", x.look(2, day, 0, 1), 7);
            Due.is("who, knows all", x.look(3, day, 0, 1), day < 10 ? 7 : 8);
        }
    }

    private static void lookRefusesOthers() {
        FlockPass x = new FlockPass();
        x.sheep(0);
        x.act(COME, 0, 1, 0);
        int[][] bad = {{-1, 0, 0, 0}, {2, 0, 0, 0}, {0, -1, 0, 0}, {0, 151, 0, 0}, {0, 0, -1, 0},
            {0, 0, 1, 0}, {0, 0, 0, -1}, {0, 0, 0, 2}, {0, 0, Integer.MAX_VALUE, 1}};
        for (int[] b : bad) {
            Due.is("bad look", x.look(b[0], b[1], b[2], b[3]), -1);
        }
    }

    private static void entriesAreTold() {
        FlockPass x = new FlockPass();
        x.sheep(0);
        x.sheep(1);
        x.act(COME, 1, 9, 4);
        x.act(SELL, 0, 3, 11);
        int[][] want = {{COME, 1, 9, -1}, {SELL, 0, 3, 11}};
        for (int e = 0; e < 2; e++) {
            for (int what = 0; what < 4; what++) {
                Due.is("entry", x.entry(e, what), want[e][what]);
            }
        }
        Due.is("entry(0, -1)", x.entry(0, -1), -1);
        Due.is("entry(0, 4)", x.entry(0, 4), -1);
        Due.is("entry(-1, 0)", x.entry(-1, 0), -1);
        Due.is("entry(2, 0)", x.entry(2, 0), -1);
    }

    private static void deadStayDead() {
        FlockPass x = new FlockPass();
        x.sheep(0);
        x.sheep(1);
        x.act(COME, 0, 1, 0);
        x.act(DIE, 0, 2, 0);
        x.act(COME, 1, 1, 0);
        x.act(DIE, 1, 3, 0);
        Due.days(x, 2);
        x.milking(1);
        x.close(0);
        Due.is("dead in the next year", x.look(0, 0, 0, 0), 2);
        Due.is("died behind the end: alive", x.look(0, 0, 1, 0), 0);
        Due.is("the dead don't come", x.act(COME, 0, 1, 0), -1);
        Due.is("nor are they sold", x.act(SELL, 0, 1, 5), -1);
        Due.is("their numbers stay", x.sheep(3), 2);
        Due.is("the living come", x.act(COME, 1, 1, 0), 0);
        Due.is("3 sheep, the dead too", x.count(6), 3);
    }
}
