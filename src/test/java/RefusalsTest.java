import java.util.List;

/**
 * "A call that is refused (NONE, false) changes nothing but the tape, where it is told": each way in
 * which a call may be refused, on an alp where all that it could touch is there to be touched.
 * Sentence compares the alp behind each refused call with one that did not hear it.
 */
public final class RefusalsTest {
    private static final String FIRST_YEAR = Alps.FIRST_YEAR;
    private static final String SECOND_YEAR = Alps.SECOND_YEAR;

    public static void main(String[] args) {
        tapeCalls();
        alpCalls();
        flockCalls();
        sheepCalls();
        milkCalls();
        closeCalls();
        wayCalls();
        questions();
        takenQuestions();
        faultsTouchTheTapeAlone();
        waysTouchTheStepsAlone();
        Due.end();
    }

    private static void tapeCalls() {
        refused(SECOND_YEAR + "feed ';l4321;m765;w98;v999'", "feed(1, 2, 3, 4, 5)", "feed(0, 0, 0, 0, 0)",
                "rules(41)", "rules(-1)", "rules(MAX)", "rules(MIN)");
        refused(SECOND_YEAR, "rules(21)", "rules(40)", "rules(-1)");
        refused(FIRST_YEAR, "rules(1)", "rules(20)", "rules(-1)");
    }

    private static void alpCalls() {
        refused(SECOND_YEAR, "alp(1)", "alp(3)", "alp(6)", "alp(0)", "alp(7)");
        refused(FIRST_YEAR, "alp(1)", "alp(3)", "alp(6)", "alp(0)", "alp(7)");
        String begun = "alp(3) | height(0..2, 50, 90, 2) | sheep(0..2)\n";
        refused(begun, "alp(0)", "alp(7)", "alp(-1)", "alp(MIN)", "alp(MAX)");
        refused(begun + "day(3, 3)", "alp(3)", "alp(2)");
        refused(begun + "move(0)", "alp(3)", "alp(2)");
        refused(begun + "act(0, 0, 5, 0)", "alp(3)", "alp(2)");
        refused(SECOND_YEAR, "height(-1, 1, 2, 3)", "height(3, 1, 2, 3)", "height(5, 1, 2, 3)", "height(MAX, 1, 2, 3)",
                "height(1, -1, 2, 3)", "height(1, 60001, 2, 3)", "height(1, 1, 0, 3)", "height(1, 1, 60001, 3)",
                "height(1, 1, 2, -1)", "height(1, 1, 2, 101)");
    }

    private static void flockCalls() {
        refused(SECOND_YEAR, "move(NONE)", "move(1)", "move(3)", "move(-2)", "move(MIN)", "move(MAX)");
        refused(SECOND_YEAR + "move(0)", "move(NONE)", "move(0)", "move(2)");
        refused(SECOND_YEAR + "move(2)", "move(0)", "move(2)", "move(3)", "move(NONE)");
        refused(FIRST_YEAR, "move(NONE)", "move(1)", "move(2)", "move(3)");
        refused(FIRST_YEAR + "day(0, 30)", "move(0)", "move(NONE)");
        refused(SECOND_YEAR, "day(-31, 5)", "day(41, 5)", "day(5, -1)", "day(5, 301)", "day(MIN, MIN)", "day(MAX, MAX)");
        refused(SECOND_YEAR + "148 x day(1, 3)", "day(5, 5)", "day(0, 0)", "day(41, 5)");
    }

    private static void sheepCalls() {
        refused(SECOND_YEAR, "sheep(0)", "sheep(11)", "sheep(-1)", "sheep(12)");
        refused(FIRST_YEAR, "sheep(-1)", "sheep(12)", "sheep(MIN)", "sheep(MAX)");
        refused(FIRST_YEAR + "75 x sheep(8)", "sheep(8)", "sheep(0)", "sheep(12)");
        refused(SECOND_YEAR, "act(-1, 0, 5, 0)", "act(4, 0, 5, 0)", "act(0, -1, 5, 0)", "act(0, 5, 5, 0)",
                "act(0, 4, 0, 0)", "act(0, 4, 151, 0)", "act(3, 4, 5, -1)", "act(3, 4, 5, 12)");
        // One for each rule of FIT, among them late ones that only ENTRIES of later DAYS don't allow.
        refused(SECOND_YEAR, "act(0, 0, 1, 0)", "act(0, 1, 1, 0)", "act(1, 0, 4, 0)", "act(1, 0, 2, 0)",
                "act(2, 4, 5, 0)", "act(2, 0, 2, 0)", "act(3, 2, 5, 7)", "act(3, 0, 5, 0)", "act(0, 3, 5, 0)",
                "act(1, 3, 5, 0)", "act(2, 3, 5, 0)", "act(3, 3, 5, 9)");
        String full = SECOND_YEAR + "act(3, 4, 9, 5) | act(3, 4, 9, 6)\n".repeat(48);
        refused(full, "act(3, 4, 9, 5)", "act(0, 4, 1, 0)", "act(3, 2, 150, 1)");
    }

    private static void milkCalls() {
        refused(SECOND_YEAR, "milking(0)", "milking(151)", "milking(2)", "milking(3)", "milking(MIN)", "milking(MAX)");
        refused(FIRST_YEAR, "milking(0)", "milking(151)", "milking(-1)", "milking(MIN)", "milking(MAX)");
        refused(SECOND_YEAR, "milk(-1, 9)", "milk(5, 9)", "milk(79, 9)", "milk(0, -1)", "milk(0, 5001)", "milk(4, 5001)",
                "milk(MIN, 9)", "milk(MAX, 9)");
        refused(FIRST_YEAR, "milk(0, 9)", "milk(4, 9)", "milk(5, 9)", "milk(0, 5001)");
    }

    private static void closeCalls() {
        refused(SECOND_YEAR, "close(0)", "close(10)", "close(-1)", "close(1001)");
        String down = FIRST_YEAR + "act(0, 0..2, 1, 0) | act(1, 0, 2, 0) | day(3, 3)\n";
        refused(down, "close(0)", "close(10)");
        refused(down + "milking(2) | milk(0..2, 70)", "close(0)", "close(10)", "close(1000)");
        refused(down + "milking(1) | milk(0..2, 70)", "close(-1)", "close(1001)", "close(MIN)", "close(MAX)");
        refused(down + "milking(1) | milk(0..2, 70) | move(0)", "close(0)", "close(10)");
        refused(SECOND_YEAR, "work(-1, 5)", "work(12, 5)", "work(3, 0)", "work(3, 1001)", "work(3, -1)", "work(MAX, MAX)");
    }

    private static void wayCalls() {
        refused(SECOND_YEAR, "way(0, 5)", "way(9, 5)", "way(-1, 5)", "way(2, -31)", "way(2, 41)",
                "way(MIN, 5)", "way(MAX, 5)");
        refused(FIRST_YEAR, "way(0, 5)", "way(9, 5)", "way(2, -31)", "way(2, 41)");
    }

    private static void questions() {
        refused(SECOND_YEAR, "look(-1, 2, 0, 0)", "look(5, 2, 0, 0)", "look(4, -1, 0, 0)", "look(4, 151, 0, 0)",
                "look(4, 2, -1, 0)", "look(4, 2, 5, 0)", "look(4, 2, 0, -1)", "look(4, 2, 0, 2)");
        refused(SECOND_YEAR, "credit(-1, 0)", "credit(5, 0)", "credit(4, -1)", "credit(4, 5)",
                "part(-1, 0)", "part(5, 0)", "part(4, -1)", "part(4, 12)");
        refused(SECOND_YEAR, "step(-1)", "step(3)", "step(8)", "grass(-1, 0)", "grass(3, 0)", "grass(0, -1)", "grass(0, 3)",
                "told(-1, 0)", "told(12, 0)", "told(0, -1)", "told(0, 6)", "entry(-1, 0)", "entry(4, 0)", "entry(0, -1)",
                "entry(0, 4)", "rule(-1)", "rule(4)", "count(-1)", "count(14)");
    }

    private static void takenQuestions() {
        for (String question : List.of("look(2, 1, 0, 0)", "look(0, 150, 3, 1)", "credit(4, 0)", "credit(1, 1)",
                "part(4, 0)", "part(0, 11)", "step(0)", "grass(2, 0)", "told(0, 0)", "told(5, 5)",
                "entry(3, 2)", "rule(3)", "count(7)")) {
            List<Call> without = Sentence.calls(Alps.bare(SECOND_YEAR));
            Twins.same(question + " only asks", Twins.joined(without, Sentence.calls(question)), without);
        }
    }

    private static void faultsTouchTheTapeAlone() {
        String unfed = Alps.bare(SECOND_YEAR).replace("feed 'l1234;m567;w89;v1000'", "");
        for (String fault : List.of("rules(0)", "rules(1)", "rules(6)", "rules(7)")) {
            List<Call> with = Twins.joined(Sentence.calls(Alps.bare(SECOND_YEAR)), Sentence.calls(fault));
            Twins.same(fault + " is a FAULT: RULES stay", with, Sentence.calls(unfed));
        }
    }

    private static void waysTouchTheStepsAlone() {
        List<Call> without = Sentence.calls(Alps.bare(SECOND_YEAR));
        List<Call> with = Twins.joined(without, Sentence.calls("way(8, 40) | way(1, -30) | way(3, 5)"));
        Twins.same("ways only tell steps", with, without);
    }

    /** Each of the calls is refused on an alp made by this text, and leaves it as it is. */
    private static void refused(String made, String... calls) {
        for (String call : calls) {
            boolean answersFalse = call.matches("(alp|height|move|milking|milk|work)\\(.*");
            String due = answersFalse ? " = false" : " = NONE";
            Sentence.holds("refused: " + call, made + "\n" + call + due);
        }
    }
}
