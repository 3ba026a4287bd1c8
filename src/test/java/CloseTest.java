/** Promises 12 (close), 13 (work), 20 (told), 23 (count). */
public final class CloseTest {
    public static void main(String[] args) {
        closeAsksForItsTime();
        cheesesGoByTurns();
        turnSkipsThoseWithoutPart();
        withoutPartsAllAreLeft();
        workIsRoundedUp();
        workIsTold();
        pursePaysForLosses();
        purseWithoutParts();
        purseOfOnePart();
        purseAtTheEnd();
        theDeadArePaidOnce();
        nextYearBegins();
        sheepOfAnOwner();
        othersAreRefused();
        bigNumbers();
        Due.end();
    }

    private static void closeAsksForItsTime() {
        FlockPass x = new FlockPass();
        Due.is("no milking", x.close(0), -1);
        x.milking(2);
        Due.is("ahead of it", x.close(0), -1);
        Due.days(x, 1);
        Due.is("a day ahead of it", x.close(0), -1);
        Due.days(x, 1);
        Due.is("close(-1)", x.close(-1), -1);
        Due.is("close(1001)", x.close(1001), -1);
        x.move(0);
        Due.is("flock up", x.close(0), -1);
        x.move(-1);
        Due.is("year 1", x.count(0), 1);
        Due.is("day 2", x.count(1), 2);
        Due.is("close(1000)", x.close(1000), 1000);
        Due.is("year 2", x.count(0), 2);
        Due.is("day 0", x.count(1), 0);
        Due.is("not again", x.close(0), -1);
    }

    private static void cheesesGoByTurns() {
        FlockPass x = new FlockPass();
        for (int owner = 0; owner < 3; owner++) {
            x.sheep(owner);
        }
        milkedYear(x, 10, 10, 10);
        Due.is("4 of 3 like ones", x.close(4), 0);
        cheeses(x, 2, 1, 1);
        latest(x, 2, 1, 1);
        turns(x, 11, 0, 1);
        milkedYear(x, 10, 10, 10);
        x.close(5);
        latest(x, 1, 2, 2);
        cheeses(x, 3, 3, 3);
        turns(x, 9, 10, 11);
        milkedYear(x, 10, 10, 10);
        x.close(1);
        latest(x, 1, 0, 0);
        cheeses(x, 4, 3, 3);
        turns(x, 11, 9, 10);
        milkedYear(x, 1, 2, 3);
        x.close(6);
        latest(x, 1, 2, 3);
        turns(x, 11, 9, 10);
        milkedYear(x, 1, 2, 3);
        x.close(0);
        latest(x, 0, 0, 0);
        cheeses(x, 5, 5, 6);
    }

    private static void turnSkipsThoseWithoutPart() {
        FlockPass x = new FlockPass();
        for (int owner = 0; owner < 3; owner++) {
            x.sheep(owner);
        }
        milkedYear(x, 0, 10, 10);
        x.close(1);
        latest(x, 0, 1, 0);
        turns(x, 0, 11, 1);
        milkedYear(x, 10, 0, 1);
        x.close(1);
        latest(x, 1, 0, 0);
        turns(x, 11, 10, 0);
    }

    private static void withoutPartsAllAreLeft() {
        FlockPass x = new FlockPass();
        x.sheep(0);
        milkedYear(x, 0);
        Due.is("all are left over", x.close(7), 7);
        latest(x, 0, 0, 0);
        turns(x, 0, 1, 2);
        Due.is("no work", x.told(0, 3), 0);
        milkedYear(x, 1);
        Due.is("nothing is left over", x.close(7), 0);
        latest(x, 7, 0, 0);
        milkedYear(x, 0);
        x.close(3);
        latest(x, 0, 0, 0);
        cheeses(x, 7, 0, 0);
    }

    private static void workIsRoundedUp() {
        FlockPass x = new FlockPass();
        x.sheep(0);
        x.sheep(1);
        x.sheep(2);
        milkedYear(x, 25, 26, 0);
        x.close(0);
        balances(x, 1, 2, 0);
        Due.rules(x, "w1");
        milkedYear(x, 1, 1000, 1001);
        x.close(0);
        balances(x, 2, 3, 2);
        Due.rules(x, "w0");
        milkedYear(x, 1, 1000, 1001);
        x.close(0);
        balances(x, 2, 3, 2);
    }

    private static void workIsTold() {
        FlockPass x = new FlockPass();
        Due.is("work(-1, 1)", x.work(-1, 1), false);
        Due.is("work(12, 1)", x.work(12, 1), false);
        Due.is("work(0, 0)", x.work(0, 0), false);
        Due.is("work(0, 1001)", x.work(0, 1001), false);
        Due.is("work(0, -5)", x.work(0, -5), false);
        balances(x, 0, 0, 0);
        Due.is("work(0, 1000)", x.work(0, 1000), true);
        Due.is("work(11, 1)", x.work(11, 1), true);
        balances(x, -1000, 0, 0);
        Due.is("balance of 11", x.told(11, 3), -1);
    }

    private static void pursePaysForLosses() {
        FlockPass x = new FlockPass();
        x.sheep(0);
        x.sheep(1);
        x.sheep(2);
        x.sheep(2);
        x.act(0, 0, 1, 0);
        x.act(0, 1, 1, 0);
        x.act(0, 2, 1, 0);
        x.act(2, 1, 4, 0);
        x.act(1, 2, 5, 0);
        x.act(3, 2, 5, 3);
        x.milking(1);
        x.milk(0, 300);
        Due.days(x, 5);
        x.close(0);
        Due.is("pays for all", x.told(0, 4), -180);
        Due.is("for the dead", x.told(1, 4), 90);
        Due.is("sold, so not to 2", x.told(2, 4), 0);
        Due.is("for the strayed", x.told(3, 4), 90);
        Due.is("nothing lacks", x.count(11), 0);
    }

    private static void purseWithoutParts() {
        FlockPass x = new FlockPass();
        x.sheep(0);
        for (int i = 0; i < 2; i++) {
            x.act(0, 0, 1, 0);
            x.act(1, 0, 2, 0);
            x.milking(1);
            Due.days(x, 2);
            x.close(0);
        }
        Due.is("paid to it", x.told(0, 4), 180);
        Due.is("all is the purse's own", x.count(11), 180);
    }

    private static void purseOfOnePart() {
        FlockPass x = new FlockPass();
        x.sheep(0);
        x.sheep(1);
        acts(x, new int[][] {{0, 0, 1}, {0, 1, 1}, {1, 1, 2}});
        x.milking(1);
        x.milk(0, 1);
        Due.days(x, 2);
        x.close(0);
        Due.is("it pays all", x.told(0, 4), -90);
        Due.is("nothing lacks", x.count(11), 0);
    }

    private static void purseAtTheEnd() {
        FlockPass x = new FlockPass();
        for (int owner = 0; owner < 8; owner++) {
            x.sheep(owner);
        }
        acts(x, new int[][] {
            {0, 0, 3}, {1, 0, 3},
            {0, 1, 3}, {1, 1, 4}, {0, 1, 4},
            {0, 2, 3}, {2, 2, 3},
            {0, 3, 3}, {2, 3, 11},
            {0, 4, 3}, {1, 4, 10},
            {0, 5, 11}, {1, 5, 12},
            {0, 6, 3}, {1, 6, 11}});
        x.milking(1);
        Due.days(x, 10);
        x.close(0);
        Due.is("come and stray on one day: never up", x.told(0, 4), 0);
        Due.is("found", x.told(1, 4), 0);
        Due.is("come and dead on one day", x.told(2, 4), 90);
        Due.is("dies behind the end", x.told(3, 4), 0);
        Due.is("strays at the end", x.told(4, 4), 90);
        Due.is("comes behind the end", x.told(5, 4), 0);
        Due.is("strays behind the end", x.told(6, 4), 0);
        Due.is("never came", x.told(7, 4), 0);
        Due.is("own", x.count(11), 180);
    }

    private static void theDeadArePaidOnce() {
        FlockPass x = new FlockPass();
        x.sheep(0);
        acts(x, new int[][] {{0, 0, 1}, {2, 0, 1}});
        for (int i = 0; i < 3; i++) {
            x.milking(1);
            Due.days(x, 1);
            x.close(0);
        }
        Due.is("paid once", x.told(0, 4), 90);
    }

    private static void nextYearBegins() {
        FlockPass x = new FlockPass();
        x.sheep(0);
        x.sheep(1);
        acts(x, new int[][] {{0, 0, 1}, {0, 1, 1}});
        x.act(3, 0, 2, 5);
        x.act(3, 0, 4, 6);
        x.milking(3);
        x.milk(0, 10);
        x.day(0, 5);
        Due.days(x, 2);
        Due.rules(x, "v7");
        x.feed(1, 2, 3, 4, 5);
        x.way(1, 0);
        x.close(1);
        Due.is("year", x.count(0), 2);
        Due.is("day", x.count(1), 0);
        Due.is("snow stays", x.count(4), 5);
        Due.is("nobody is up", x.count(7), 0);
        Due.is("no entries", x.count(8), 0);
        Due.is("no milking", x.count(10), -1);
        Due.is("the tape stays", x.count(12), 20);
        Due.is("rules stay", x.rule(3), 7);
        Due.is("the way stays", x.step(0), 0);
        Due.is("no entry", x.entry(0, 0), -1);
        Due.is("no knowing 1", x.look(1, 0, 0, 0), -1);
        Due.is("of who has it at the end", x.look(0, 0, 0, 1), 5);
        Due.is("not up", x.look(0, 0, 0, 0), 0);
        Due.is("not up on a day", x.look(0, 150, 1, 0), 0);
    }

    private static void sheepOfAnOwner() {
        FlockPass x = new FlockPass();
        x.sheep(0);
        x.sheep(0);
        x.sheep(0);
        sheep(x, 3, 0);
        x.act(0, 0, 1, 0);
        x.act(2, 0, 2, 0);
        x.act(3, 1, 2, 1);
        sheep(x, 3, 0);
        Due.days(x, 1);
        sheep(x, 3, 0);
        Due.days(x, 1);
        sheep(x, 1, 1);
        x.milking(1);
        x.close(0);
        sheep(x, 1, 1);
    }

    private static void othersAreRefused() {
        FlockPass x = new FlockPass();
        Due.is("told(-1, 0)", x.told(-1, 0), -1);
        Due.is("told(12, 0)", x.told(12, 0), -1);
        Due.is("told(0, -1)", x.told(0, -1), -1);
        Due.is("told(0, 6)", x.told(0, 6), -1);
        Due.is("count(-1)", x.count(-1), -1);
        Due.is("count(14)", x.count(14), -1);
        Due.is("count(min)", x.count(Integer.MIN_VALUE), -1);
    }

    private static void bigNumbers() {
        FlockPass x = new FlockPass();
        Due.rules(x, "w9999;v9999;m1000");
        for (int s = 0; s < 80; s++) {
            x.sheep(11);
        }
        for (int s = 0; s < 80; s++) {
            x.act(0, s, 1, 0);
        }
        for (int s = 0; s < 20; s++) {
            x.act(2, s, 2, 0);
        }
        x.milking(1);
        for (int s = 0; s < 80; s++) {
            x.milk(s, 5000);
        }
        Due.days(x, 2);
        Due.is("all milk", x.part(100, 11), 400000);
        Due.is("closed", x.close(1000), 0);
        Due.is("cheeses", x.told(11, 1), 1000);
        Due.is("work", x.told(11, 3), 3999600);
        Due.is("paid to and by itself", x.told(11, 4), 0);
        Due.is("60 are left", x.told(11, 0), 60);
    }

    private static void acts(FlockPass x, int[][] rows) {
        for (int[] row : rows) {
            if (x.act(row[0], row[1], row[2], 0) < 0) {
                Due.is("act of sheep " + row[1], false, true);
            }
        }
    }

    /** A YEAR of one DAY on which SHEEP 0, 1, .. come and are milked. */
    private static void milkedYear(FlockPass x, int... milk) {
        x.milking(1);
        for (int s = 0; s < milk.length; s++) {
            x.act(0, s, 1, 0);
            x.milk(s, milk[s]);
        }
        Due.days(x, 1);
    }

    private static void three(FlockPass x, int what, long zero, long one, long two) {
        Due.is("told(0, " + what + ")", x.told(0, what), zero);
        Due.is("told(1, " + what + ")", x.told(1, what), one);
        Due.is("told(2, " + what + ")", x.told(2, what), two);
    }

    private static void sheep(FlockPass x, long zero, long one) {
        three(x, 0, zero, one, 0);
    }

    private static void cheeses(FlockPass x, long zero, long one, long two) {
        three(x, 1, zero, one, two);
    }

    private static void latest(FlockPass x, long zero, long one, long two) {
        three(x, 2, zero, one, two);
    }

    private static void balances(FlockPass x, long zero, long one, long two) {
        three(x, 3, zero, one, two);
    }

    private static void turns(FlockPass x, long zero, long one, long two) {
        three(x, 5, zero, one, two);
    }
}
