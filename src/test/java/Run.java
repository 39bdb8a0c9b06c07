import java.lang.reflect.Method;
import java.util.HashMap;
import java.util.Map;

/**
 * Calls on one object, told by their names. They are counted: what an object answers beyond its 512th call is free,
 * so a test that goes beyond it holds nothing.
 */
final class Run {
    static final int BAD = EarthBanks.BAD, STATE = EarthBanks.STATE, FULL = EarthBanks.FULL, NONE = EarthBanks.NONE;
    static final int MOST_CALLS = 512;

    private static final Map<String, Method> METHODS = new HashMap<>();

    private final EarthBanks banks = new EarthBanks();
    private int calls = 0;

    static {
        for (Method method : EarthBanks.class.getDeclaredMethods()) {
            if (java.lang.reflect.Modifier.isPublic(method.getModifiers())) METHODS.put(method.getName(), method);
        }
    }

    static Run ofDam(String text) {
        Run run = new Run().type(text);
        Check.holds("dam() of \"" + text + "\" stands", run.call("dam") >= 0);
        return run;
    }

    int calls() {
        return calls;
    }

    long call(String name, long... args) {
        calls++;
        if (calls > MOST_CALLS) throw new IllegalStateException("a test makes more than 512 calls on one object");
        Method method = METHODS.get(name);
        Class<?>[] types = method.getParameterTypes();
        Object[] values = new Object[args.length];
        for (int i = 0; i < args.length; i++) {
            if (types[i] == int.class) values[i] = Math.toIntExact(args[i]);
            else values[i] = args[i];
        }
        try {
            return ((Number) method.invoke(banks, values)).longValue();
        } catch (ReflectiveOperationException e) {
            throw new IllegalStateException(told(name, args), e);
        }
    }

    static String told(String name, long... args) {
        StringBuilder text = new StringBuilder(name).append('(');
        for (int i = 0; i < args.length; i++) text.append(i == 0 ? "" : ", ").append(args[i]);
        return text.append(')').toString();
    }

    Run due(long want, String name, long... args) {
        Check.due(told(name, args), call(name, args), want);
        return this;
    }

    /** A call whose answer is of no matter, but that it is not refused. */
    Run does(String name, long... args) {
        long answer = call(name, args);
        Check.holds(told(name, args) + " is not refused", answer != BAD && answer != STATE && answer != FULL);
        return this;
    }

    Run type(String text) {
        for (int from = 0; from < text.length(); from += 8) {
            int to = Math.min(text.length(), from + 8);
            call("type", Check.bytes(text, from, to), to - from);
        }
        return this;
    }

    Run dam(long want, String text) {
        type(text);
        Check.due("dam() of \"" + text + "\"", call("dam"), want);
        return this;
    }
}
