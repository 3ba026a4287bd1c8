/** Promises 17 (way), 18 (step). */
public final class WayTest {
    public static void main(String[] args) {
        leastHungerFirst();
        thenMostGrass();
        thenTheLeastHeights();
        fromDownOnlyHeightZero();
        sixHeights();
        grassGrowsAhead();
        refusalsKeepTheLatest();
        nothingElseChanges();
        sheepOfTheLastDay();
        Due.end();
    }

    private static FlockPass alp(int[][] heights, int sheep) {
        FlockPass x = new FlockPass();
        x.alp(heights.length);
        for (int h = 0; h < heights.length; h++) {
            x.height(h, heights[h][0], heights[h][1], heights[h][2]);
        }
        for (int s = 0; s < sheep; s++) {
            x.sheep(0);
        }
        for (int s = 0; s < sheep; s++) {
            x.act(0, s, 1, 0);
        }
        x.day(-30, 0);
        return x;
    }

    private static void leastHungerFirst() {
        FlockPass x = alp(new int[][] {{10, 10, 0}, {0, 10, 0}, {100, 100, 0}}, 1);
        x.move(0);
        // Two DAYS at 2 feed more than the one DAY that 0 has.
        way(x, 3, 0, 10, 0, 1, 2);
        way(x, 2, 0, 10, 0, 0);
        way(x, 1, 0, 0, 0);
        way(x, 8, 0, 10, 0, 1, 2, 2, 2, 2, 2, 2);
    }

    private static void thenMostGrass() {
        FlockPass x = alp(new int[][] {{100, 100, 5}, {100, 100, 0}}, 1);
        x.move(0);
        // What is eaten at 0 grows again, what is eaten at 1 does not.
        way(x, 2, 10, 0, 0, 0);
        FlockPass y = alp(new int[][] {{100, 100, 0}, {100, 100, 5}}, 1);
        y.move(0);
        // What is eaten at 1 on the last DAY could not grow again, so 0 is as good then.
        way(y, 3, 10, 0, 1, 1, 0);
    }

    private static void thenTheLeastHeights() {
        FlockPass x = alp(new int[][] {{100, 100, 0}, {100, 100, 0}, {100, 100, 0}}, 2);
        x.move(0);
        way(x, 4, 0, 0, 0, 0, 0, 0);
        x.move(1);
        way(x, 4, 0, 0, 0, 0, 0, 0);
        x.move(2);
        way(x, 4, 0, 0, 1, 0, 0, 0);
        FlockPass y = alp(new int[][] {{0, 1, 0}, {0, 1, 0}}, 0);
        y.move(0);
        y.move(1);
        way(y, 8, 40, 0, 0, 0, 0, 0, 0, 0, 0, 0);
    }

    private static void fromDownOnlyHeightZero() {
        FlockPass x = alp(new int[][] {{0, 1, 0}, {100, 100, 0}}, 3);
        way(x, 1, 0, 30, 0);
        way(x, 2, 0, 30, 0, 1);
        x.day(0, 300);
        way(x, 2, 0, 30, 0, 1);
    }

    private static void sixHeights() {
        int[][] heights = {{0, 1, 0}, {0, 1, 0}, {0, 1, 0}, {0, 1, 0}, {0, 1, 0}, {60000, 60000, 0}};
        FlockPass x = alp(heights, 80);
        way(x, 8, 0, 4000, 0, 1, 2, 3, 4, 5, 5, 5);
        for (int h = 0; h < 6; h++) {
            x.move(h);
        }
        way(x, 8, 40, 0, 5, 5, 5, 5, 5, 5, 5, 5);
        x.height(5, 0, 1, 0);
        way(x, 8, 0, 6400, 4, 3, 2, 1, 0, 0, 0, 0);
    }

    private static void grassGrowsAhead() {
        FlockPass x = alp(new int[][] {{0, 30, 1}, {0, 30, 10}}, 1);
        x.move(0);
        way(x, 1, 10, 0, 0);
        way(x, 3, 4, 0, 1, 1, 0);
        way(x, 1, 3, 7, 0);
        FlockPass y = alp(new int[][] {{50, 20, 100}}, 1);
        y.move(0);
        // GRASS above MOST does not grow, but does not shrink to it either.
        way(y, 8, 40, 0, 0, 0, 0, 0, 0, 0, 0, 0);
    }

    private static void refusalsKeepTheLatest() {
        FlockPass x = alp(new int[][] {{0, 1, 0}, {100, 100, 0}}, 1);
        Due.is("no way yet", x.step(0), -1);
        way(x, 2, 40, 10, 0, 1);
        Due.is("way(0, 0)", x.way(0, 0), -1);
        Due.is("way(9, 0)", x.way(9, 0), -1);
        Due.is("way(-1, 0)", x.way(-1, 0), -1);
        Due.is("way(1, -31)", x.way(1, -31), -1);
        Due.is("way(1, 41)", x.way(1, 41), -1);
        Due.is("step(0) stays", x.step(0), 0);
        Due.is("step(1) stays", x.step(1), 1);
        Due.is("step(2)", x.step(2), -1);
        Due.is("step(-1)", x.step(-1), -1);
        Due.is("step(max)", x.step(Integer.MAX_VALUE), -1);
        x.move(0);
        x.day(0, 0);
        Due.is("stays behind a day", x.step(1), 1);
        way(x, 1, -30, 0, 1);
    }

    private static void nothingElseChanges() {
        FlockPass x = alp(new int[][] {{25, 100, 7}, {3, 100, 9}}, 2);
        x.move(0);
        long[] before = counts(x);
        x.way(8, 20);
        long[] behind = counts(x);
        for (int i = 0; i < before.length; i++) {
            Due.is("state " + i, behind[i], before[i]);
        }
    }

    private static void sheepOfTheLastDay() {
        FlockPass x = new FlockPass();
        x.sheep(0);
        x.sheep(0);
        x.act(0, 0, 1, 0);
        x.act(0, 1, 2, 0);
        way(x, 1, 0, 0, 0);
        x.day(0, 0);
        way(x, 2, 0, 20, 0, 0);
        x.day(0, 0);
        way(x, 2, 0, 40, 0, 0);
        x.act(1, 0, 2, 0);
        way(x, 2, 0, 20, 0, 0);
    }

    private static long[] counts(FlockPass x) {
        long[] row = new long[16];
        for (int what = 0; what < 14; what++) {
            row[what] = x.count(what);
        }
        row[14] = x.grass(0, 0);
        row[15] = x.grass(1, 0);
        return row;
    }

    private static void way(FlockPass x, int n, int warmth, int hunger, int... steps) {
        Due.is("way(" + n + ", " + warmth + ")", x.way(n, warmth), hunger);
        for (int i = 0; i < n; i++) {
            Due.is("step(" + i + ") of " + n, x.step(i), steps[i]);
        }
        Due.is("step(" + n + ")", x.step(n), -1);
    }
}
