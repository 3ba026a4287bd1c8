import java.util.ArrayList;
import java.util.List;

/** "All memory is the alp's own": alps that are used by turns answer as each of them does alone. */
public final class OwnMemoryTest {
    private static final String QUESTIONS = """
        count(0..13) | rule(0..3) | step(0..8) | grass(0..5, 0..2) | told(0..11, 0..5) | entry(0..8, 0..3)
        credit(0..4, 0..4) | part(0..4, 0..11) | look(0..4, 2, 0..4, 0..1) | rules(20) | rule(0..3) | count(12)
        """;

    /** Unlike the other one in all that can be asked. */
    private static final String OTHER_ALP = """
        alp(6) | height(0..5, 9, 900, 9) | 3 x sheep(8) | act(0, 2, 1, 0) | act(0, 0..1, 3, 0) | act(3, 2, 1, 9)
        milking(3) | milk(0..2, 5000) | move(0..4) | day(-3, 0) | day(40, 0) | day(40, 200) | way(8, 1)
        work(8, 1) | feed 'v1;w2;m3;l4;v5;w6;m7' | rules 'v9;w8;m7' | feed 'l9;v9;l9;v9;l9;v9;l9'
        """;

    public static void main(String[] args) {
        List<Call> one = Sentence.calls(Alps.bare(Alps.SECOND_YEAR) + QUESTIONS);
        List<Call> other = Sentence.calls(OTHER_ALP + QUESTIONS);
        byTurns(one, other, 1);
        byTurns(other, one, 1);
        byTurns(one, other, 7);
        byTurns(one, one, 50);
        behindEachOther(one, other);
        behindEachOther(other, one);
        Due.end();
    }

    /** Some calls go to the one, as many to the other, and so on; both are made at first. */
    private static void byTurns(List<Call> one, List<Call> other, int some) {
        FlockPass x = new FlockPass();
        FlockPass y = new FlockPass();
        List<Long> ofOne = new ArrayList<>();
        List<Long> ofOther = new ArrayList<>();
        for (int i = 0; i < Math.max(one.size(), other.size()); i += some) {
            ask(x, one, i, some, ofOne);
            ask(y, other, i, some, ofOther);
        }
        same("by turns of " + some, one, ofOne);
        same("by turns of " + some, other, ofOther);
    }

    /** The other is made and used while the one is half way. */
    private static void behindEachOther(List<Call> one, List<Call> other) {
        int half = one.size() / 2;
        FlockPass x = new FlockPass();
        List<Long> ofOne = new ArrayList<>();
        ask(x, one, 0, half, ofOne);
        List<Long> ofOther = alone(other);
        ask(x, one, half, one.size(), ofOne);
        same("half way", one, ofOne);
        same("behind another's half way", other, ofOther);
    }

    private static void ask(FlockPass x, List<Call> calls, int from, int some, List<Long> answers) {
        for (int i = from; i < Math.min(calls.size(), from + some); i++) {
            answers.add(calls.get(i).on(x));
        }
    }

    private static List<Long> alone(List<Call> calls) {
        List<Long> answers = new ArrayList<>();
        ask(new FlockPass(), calls, 0, calls.size(), answers);
        return answers;
    }

    private static void same(String told, List<Call> calls, List<Long> answers) {
        List<Long> due = alone(calls);
        Due.is(told + ": at most " + Twins.MOST_CALLS + " calls", calls.size() <= Twins.MOST_CALLS, true);
        Due.is(told + ": all were asked", answers.size(), due.size());
        for (int i = 0; i < answers.size(); i++) {
            Due.is(told + ": " + calls.get(i) + " as call " + (i + 1), answers.get(i), due.get(i));
        }
    }
}
