import java.lang.reflect.InvocationTargetException;
import java.lang.reflect.Method;
import java.util.ArrayList;
import java.util.Arrays;
import java.util.HashMap;
import java.util.List;
import java.util.Map;

/** One call of FlockPass that can be done on any object; a boolean answer counts 1 or 0. */
record Call(String name, List<Integer> values) {
    private static final Map<String, Method> METHODS = methods();

    private static Map<String, Method> methods() {
        Map<String, Method> all = new HashMap<>();
        for (Method m : FlockPass.class.getDeclaredMethods()) {
            all.put(m.getName(), m);
        }
        return all;
    }

    static Call of(String name, int... values) {
        return new Call(name, Arrays.stream(values).boxed().toList());
    }

    /** The calls that feed a text, filled up with zeros to 20, 40, .. bytes. */
    static List<Call> feeds(String text) {
        List<Call> calls = new ArrayList<>();
        for (int from = 0; from < Math.max(1, text.length()); from += 20) {
            int[] words = new int[5];
            for (int i = 0; i < 20; i++) {
                int sign = from + i < text.length() ? text.charAt(from + i) : 0;
                words[i / 4] = words[i / 4] << 8 | sign;
            }
            calls.add(of("feed", words));
        }
        return calls;
    }

    long on(FlockPass x) {
        try {
            Object answer = method().invoke(x, values.toArray());
            return answer instanceof Boolean b ? (b ? 1 : 0) : ((Number) answer).longValue();
        } catch (IllegalAccessException | InvocationTargetException e) {
            throw new IllegalStateException(this + " has thrown", e);
        }
    }

    /** Whether this answer is the one of a refused call, NONE or false. */
    boolean isRefusal(long answer) {
        return answer == (method().getReturnType() == boolean.class ? 0 : FlockPass.NONE);
    }

    private Method method() {
        Method m = METHODS.get(name);
        if (m == null || m.getParameterCount() != values.size()) {
            throw new IllegalArgumentException("no such call: " + this);
        }
        return m;
    }

    @Override
    public String toString() {
        String row = values.toString();
        return name + "(" + row.substring(1, row.length() - 1) + ")";
    }
}
