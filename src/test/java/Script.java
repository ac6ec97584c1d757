import java.lang.reflect.InvocationTargetException;
import java.lang.reflect.Method;
import java.util.HashMap;
import java.util.Map;

/**
 * Runs of calls in the form of the document's examples: "addPeer(true) = 0; restart(true) = 1". A call without an
 * answer behind it is made and must not be refused. MIN and MAX stand for the smallest and the largest int.
 */
final class Script {
    private static final Map<String, Method> METHODS = new HashMap<>();

    static {
        for (Method method : GracefulRestart.class.getMethods()) {
            if (method.getDeclaringClass() == GracefulRestart.class) {
                METHODS.put(method.getName(), method);
            }
        }
    }

    private Script() {
    }

    /** Plays a run on a new object; the words of the document that it holds to come first. */
    static GracefulRestart play(String sentence, String run) {
        Checks.sentence(sentence);
        GracefulRestart x = new GracefulRestart();
        go(x, run);
        return x;
    }

    /** Goes on with an object. */
    static void go(GracefulRestart x, String run) {
        for (String line : run.strip().split("\\s*;\\s*")) {
            int equals = line.indexOf('=');
            String call = (equals < 0 ? line : line.substring(0, equals)).strip();
            int answer = ask(x, call);
            if (equals < 0) {
                Checks.holds(call + " was refused with " + answer, answer >= 0);
            } else {
                Checks.due(call, answer, Integer.parseInt(line.substring(equals + 1).strip()));
            }
        }
    }

    static int ask(GracefulRestart x, String call) {
        int open = call.indexOf('(');
        String inside = call.substring(open + 1, call.length() - 1).strip();
        String[] words = inside.isEmpty() ? new String[0] : inside.split("\\s*,\\s*");
        Object[] arguments = new Object[words.length];
        for (int i = 0; i < words.length; i++) {
            arguments[i] = value(words[i]);
        }
        return invoke(x, call.substring(0, open), arguments);
    }

    private static Object value(String word) {
        switch (word) {
            case "true": return true;
            case "false": return false;
            case "MIN": return Integer.MIN_VALUE;
            case "MAX": return Integer.MAX_VALUE;
            default: return Integer.parseInt(word);
        }
    }

    private static int invoke(GracefulRestart x, String name, Object[] arguments) {
        Method method = METHODS.get(name);
        if (method == null) {
            throw new IllegalArgumentException("no method " + name);
        }
        try {
            return (Integer) method.invoke(x, arguments);
        } catch (IllegalAccessException | InvocationTargetException fault) {
            throw new IllegalStateException(name, fault);
        }
    }
}
