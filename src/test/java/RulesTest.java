/** Promises 2 (feed), 3 (rules), 22 (rule). */
public final class RulesTest {
    public static void main(String[] args) {
        tapeTakesFortyBytes();
        bytesComeHighestFirst();
        rulesAreReadAndReplaced();
        faultsAreTheFirstFromTheLeft();
        faultsLeaveTheRules();
        ruleRefusesOthers();
        Due.end();
    }

    private static void tapeTakesFortyBytes() {
        FlockPass x = new FlockPass();
        Due.is("tape at first", x.count(12), 0);
        Due.is("first feed", x.feed(1, 2, 3, 4, 5), 20);
        Due.is("second feed", x.feed(1, 2, 3, 4, 5), 40);
        Due.is("third feed", x.feed(1, 2, 3, 4, 5), -1);
        Due.is("tape stays full", x.count(12), 40);
        Due.is("rules(41)", x.rules(41), -1);
        Due.is("rules(-1)", x.rules(-1), -1);
        Due.is("rules(min)", x.rules(Integer.MIN_VALUE), -1);
        Due.is("rules(max)", x.rules(Integer.MAX_VALUE), -1);
        Due.is("tape stays", x.count(12), 40);
        Due.is("rules(0)", x.rules(0), 100);
        Due.is("tape is empty", x.count(12), 0);
    }

    private static void bytesComeHighestFirst() {
        FlockPass x = new FlockPass();
        x.feed(('l' << 24) + ('1' << 16) + (';' << 8) + 'm', ('2' << 24) + (';' << 16) + ('w' << 8) + '3',
                (';' << 24) + ('v' << 16) + ('4' << 8) + ';', ('l' << 24) + ('6' << 16) + ('0' << 8) + '0',
                ('7' << 24) + (';' << 16) + ('m' << 8) + '9');
        Due.is("twenty bytes", x.rules(20), 0);
        numbers(x, 6007, 9, 3, 4);
        Due.feed(x, "l0001;m0002;w0003;v0004;l0009;m0010;w123");
        Due.is("forty bytes", x.rules(40), 0);
        numbers(x, 9, 10, 123, 4);
        x.feed(0xECB5BBED, 0, 0, 0, 0);
        Due.is("high bits are not cut off", x.rules(2), 100);
    }

    private static void rulesAreReadAndReplaced() {
        FlockPass x = new FlockPass();
        numbers(x, 5, 500, 40, 90);
        Due.is("one clause", Due.rules(x, "v9999"), 0);
        numbers(x, 5, 500, 40, 9999);
        Due.is("others are as at first again", Due.rules(x, "m0"), 0);
        numbers(x, 5, 0, 40, 90);
        Due.is("the later one counts", Due.rules(x, "w1;w02;w003;w0004"), 0);
        numbers(x, 5, 500, 4, 90);
        Due.is("only the first n bytes are read", rulesOf(x, "l12;m34;x", 2), 0);
        numbers(x, 1, 500, 40, 90);
        Due.is("all four", Due.rules(x, "v1;w2;m3;l4"), 0);
        numbers(x, 4, 3, 2, 1);
    }

    private static void faultsAreTheFirstFromTheLeft() {
        FlockPass x = new FlockPass();
        fault(x, "", 100);
        fault(x, "x5", 100);
        fault(x, "L5", 100);
        fault(x, "5", 100);
        fault(x, ";", 100);
        fault(x, " l5", 100);
        fault(x, "l5;", 103);
        fault(x, "l5;;m5", 103);
        fault(x, "l5;k5", 103);
        fault(x, "l", 201);
        fault(x, "l;", 201);
        fault(x, "l/", 201);
        fault(x, "l:", 201);
        fault(x, "lx", 201);
        fault(x, "l5;m", 204);
        fault(x, "l-5", 201);
        fault(x, "l12345", 305);
        fault(x, "l12345;x", 305);
        fault(x, "m1234;v00000", 311);
        fault(x, "l1234x", 405);
        fault(x, "l1m1", 402);
        fault(x, "l1 ", 402);
        fault(x, "l1:", 402);
        fault(x, "l1/", 402);
        fault(x, "l5;m5;w5;v5;l5;m5;w5;v5;l5;m5;w5;v5;l5;m", 240);
        fault(x, "l5;m5;w5;v5;l5;m5;w5;v5;l5;m5;w5;v5;l50;", 140);
    }

    private static void faultsLeaveTheRules() {
        FlockPass x = new FlockPass();
        Due.rules(x, "l1;m2;w3;v4");
        fault(x, "l9;m9;w9;v9;", 112);
        numbers(x, 1, 2, 3, 4);
        Due.is("a faulty tape is empty", x.count(12), 0);
        Due.feed(x, "l9");
        x.rules(21);
        Due.is("a refused tape is not", x.count(12), 20);
        numbers(x, 1, 2, 3, 4);
        Due.is("and can be read", x.rules(2), 0);
        numbers(x, 9, 500, 40, 90);
    }

    private static void ruleRefusesOthers() {
        FlockPass x = new FlockPass();
        Due.is("rule(-1)", x.rule(-1), -1);
        Due.is("rule(4)", x.rule(4), -1);
        Due.is("rule(min)", x.rule(Integer.MIN_VALUE), -1);
        Due.is("rule(max)", x.rule(Integer.MAX_VALUE), -1);
    }

    private static int rulesOf(FlockPass x, String text, int n) {
        Due.feed(x, text);
        return x.rules(n);
    }

    private static void fault(FlockPass x, String text, int want) {
        Due.is("rules of '" + text + "'", Due.rules(x, text), want);
    }

    private static void numbers(FlockPass x, int l, int m, int w, int v) {
        Due.is("l", x.rule(0), l);
        Due.is("m", x.rule(1), m);
        Due.is("w", x.rule(2), w);
        Due.is("v", x.rule(3), v);
    }
}
