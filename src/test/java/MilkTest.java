/** Promises 10 (milking), 11 (milk), 15 (credit), 16 (part). */
public final class MilkTest {
    public static void main(String[] args) {
        milkingIsToldOnce();
        milkKeepsItsLimits();
        milkCountsIfUp();
        milkingAheadCounts();
        creditLosesByDaysNotUp();
        creditIsNotBelowFloor();
        creditByKnowing();
        partGoesByDays();
        partAddsUpTheDaysOfAnOwner();
        partAheadOfDayOne();
        refusesOthers();
        Due.end();
    }

    private static void milkingIsToldOnce() {
        FlockPass x = new FlockPass();
        Due.is("milking(0)", x.milking(0), false);
        Due.is("milking(151)", x.milking(151), false);
        Due.is("milking(-1)", x.milking(-1), false);
        Due.is("not told", x.count(10), -1);
        Due.is("milking(150)", x.milking(150), true);
        Due.is("told", x.count(10), 150);
        Due.is("milking(150) again", x.milking(150), false);
        Due.is("milking(1)", x.milking(1), false);
        Due.is("told stays", x.count(10), 150);
        FlockPass y = new FlockPass();
        Due.days(y, 3);
        Due.is("a day gone by", y.milking(1), true);
        y.close(0);
        Due.is("none in the next year", y.count(10), -1);
        Due.is("told anew", y.milking(2), true);
    }

    private static void milkKeepsItsLimits() {
        FlockPass x = new FlockPass();
        x.sheep(0);
        Due.is("not told", x.milk(0, 1), false);
        x.milking(1);
        Due.is("milk(0, -1)", x.milk(0, -1), false);
        Due.is("milk(0, 5001)", x.milk(0, 5001), false);
        Due.is("milk(-1, 1)", x.milk(-1, 1), false);
        Due.is("milk(1, 1)", x.milk(1, 1), false);
        Due.is("milk(0, 0)", x.milk(0, 0), true);
        Due.is("milk(0, 5000)", x.milk(0, 5000), true);
        x.act(0, 0, 1, 0);
        Due.days(x, 1);
        Due.is("all of it", x.credit(1, 0), 5000);
        Due.is("anew", x.milk(0, 70), true);
        Due.is("the new one", x.credit(1, 0), 70);
        x.milk(0, 5001);
        Due.is("refused", x.credit(1, 0), 70);
        x.close(0);
        x.milking(1);
        x.act(0, 0, 1, 0);
        Due.days(x, 1);
        Due.is("no milk in the next year", x.credit(1, 0), 0);
    }

    private static void milkCountsIfUp() {
        FlockPass x = new FlockPass();
        x.sheep(0);
        x.milking(2);
        Due.is("not up, yet taken", x.milk(0, 100), true);
        Due.days(x, 4);
        Due.is("not up", x.credit(0, 0), 0);
        x.act(0, 0, 3, 0);
        Due.is("up behind it", x.credit(1, 0), 0);
        x.act(3, 0, 1, 1);
        x.act(0, 0, 2, 0);
        Due.is("come twice is refused", x.count(8), 2);
        x.act(1, 0, 3, 0);
        x.act(0, 0, 2, 0);
        Due.is("come, come, stray is refused", x.count(8), 3);
        x.act(0, 0, 1, 0);
        x.act(1, 0, 2, 0);
        Due.is("refused", x.count(8), 3);
        FlockPass y = new FlockPass();
        y.sheep(0);
        y.milking(2);
        y.milk(0, 1000);
        Due.days(y, 2);
        y.act(0, 0, 2, 0);
        Due.is("behind the acts of that day", y.credit(1, 0), 995);
        y.act(1, 0, 2, 0);
        Due.is("strayed on that day", y.credit(2, 0), 0);
        y.act(0, 0, 2, 0);
        Due.is("found on that day", y.credit(3, 0), 995);
    }

    private static void milkingAheadCounts() {
        FlockPass x = new FlockPass();
        x.sheep(0);
        x.act(0, 0, 1, 0);
        x.milking(100);
        x.milk(0, 1000);
        Due.days(x, 1);
        Due.is("up on a day ahead", x.credit(1, 0), 1000);
        x.act(1, 0, 100, 0);
        Due.is("strays ahead", x.credit(2, 0), 0);
    }

    private static void creditLosesByDaysNotUp() {
        FlockPass x = new FlockPass();
        x.sheep(0);
        x.act(0, 0, 3, 0);
        x.act(1, 0, 6, 0);
        x.act(0, 0, 8, 0);
        x.milking(3);
        x.milk(0, 999);
        Due.is("ahead of day 1", x.credit(3, 0), 0);
        Due.days(x, 1);
        Due.is("1 day", x.credit(3, 0), 999 * 995 / 1000);
        Due.days(x, 2);
        Due.is("3 days, 2 lost", x.credit(3, 0), 999 * 990 / 1000);
        Due.days(x, 4);
        Due.is("7 days, 4 lost", x.credit(3, 0), 999 * 980 / 1000);
        Due.days(x, 3);
        Due.is("10 days, 4 lost", x.credit(3, 0), 999 * 980 / 1000);
        Due.rules(x, "l7");
        Due.is("by other rules", x.credit(3, 0), 999 * 972 / 1000);
        Due.rules(x, "l0");
        Due.is("no loss", x.credit(3, 0), 999);
    }

    private static void creditIsNotBelowFloor() {
        FlockPass x = new FlockPass();
        x.sheep(0);
        x.act(0, 0, 10, 0);
        x.milking(10);
        x.milk(0, 1001);
        Due.days(x, 10);
        rulesCredit(x, "l50", 1001 * 550 / 1000);
        rulesCredit(x, "l56", 1001 * 500 / 1000);
        rulesCredit(x, "l55", 1001 * 505 / 1000);
        rulesCredit(x, "l9999", 1001 * 500 / 1000);
        rulesCredit(x, "l9999;m0", 0);
        rulesCredit(x, "l111;m0", 1001 / 1000);
        rulesCredit(x, "l112;m0", 0);
        rulesCredit(x, "l112;m1", 1);
        rulesCredit(x, "l100;m999", 1001 * 999 / 1000);
        rulesCredit(x, "l100;m1000", 1001);
        rulesCredit(x, "l100;m1001", 1001);
        rulesCredit(x, "l0;m9999", 1001);
    }

    private static void creditByKnowing() {
        FlockPass x = new FlockPass();
        x.sheep(0);
        x.act(0, 0, 1, 0);
        x.milking(1);
        x.milk(0, 1000);
        Due.days(x, 20);
        x.act(2, 0, 11, 0);
        Due.is("knowing 0", x.credit(0, 0), 0);
        Due.is("knowing 1", x.credit(1, 0), 1000);
        Due.is("knowing 2", x.credit(2, 0), 950);
        Due.is("part, knowing 0", x.part(0, 0), 0);
        Due.is("part, knowing 1", x.part(1, 0), 1000);
        Due.is("part, knowing 2", x.part(2, 0), 950);
    }

    private static void partGoesByDays() {
        FlockPass x = new FlockPass();
        x.sheep(0);
        x.sheep(2);
        x.act(0, 0, 1, 0);
        x.act(0, 1, 1, 0);
        x.milking(1);
        x.milk(0, 100);
        x.milk(1, 7);
        Due.days(x, 7);
        x.act(3, 0, 3, 1);
        x.act(3, 0, 5, 2);
        parts(x, 4, 28, 28, 51);
        parts(x, 3, 28, 72, 7);
        parts(x, 2, 100, 0, 7);
        x.act(3, 0, 7, 11);
        Due.is("one day of the last owner", x.part(5, 11), 100 - 28 - 28 - 28);
        x.act(3, 0, 8, 5);
        Due.is("sold behind the end", x.part(6, 5), 0);
        x.act(3, 0, 1, 6);
        Due.is("sold on day 1", x.part(7, 0), 0);
        Due.is("had from day 1", x.part(7, 6), 28);
    }

    private static void partAddsUpTheDaysOfAnOwner() {
        FlockPass x = new FlockPass();
        x.sheep(0);
        x.act(0, 0, 1, 0);
        x.milking(1);
        x.milk(0, 10);
        Due.days(x, 4);
        x.act(3, 0, 2, 1);
        x.act(3, 0, 3, 0);
        x.act(3, 0, 4, 2);
        // Two times 1 DAY of 4 is 5 of 10, where each DAY alone would be rounded to 2.
        parts(x, 4, 5, 2, 3);
    }

    private static void partAheadOfDayOne() {
        FlockPass x = new FlockPass();
        x.sheep(0);
        x.act(0, 0, 1, 0);
        x.milking(1);
        x.milk(0, 10);
        parts(x, 1, 0, 0, 0);
        Due.days(x, 1);
        parts(x, 1, 10, 0, 0);
    }

    private static void refusesOthers() {
        FlockPass x = new FlockPass();
        x.sheep(0);
        x.act(0, 0, 1, 0);
        Due.is("credit(-1, 0)", x.credit(-1, 0), -1);
        Due.is("credit(2, 0)", x.credit(2, 0), -1);
        Due.is("credit(0, -1)", x.credit(0, -1), -1);
        Due.is("credit(0, 1)", x.credit(0, 1), -1);
        Due.is("credit(1, 0)", x.credit(1, 0), 0);
        Due.is("part(-1, 0)", x.part(-1, 0), -1);
        Due.is("part(2, 0)", x.part(2, 0), -1);
        Due.is("part(0, -1)", x.part(0, -1), -1);
        Due.is("part(0, 12)", x.part(0, 12), -1);
        Due.is("part(1, 11)", x.part(1, 11), 0);
    }

    private static void rulesCredit(FlockPass x, String text, int want) {
        Due.rules(x, text);
        Due.is("credit by " + text, x.credit(1, 0), want);
    }

    private static void parts(FlockPass x, int k, int zero, int one, int two) {
        Due.is("part of 0", x.part(k, 0), zero);
        Due.is("part of 1", x.part(k, 1), one);
        Due.is("part of 2", x.part(k, 2), two);
    }
}
