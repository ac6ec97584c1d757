import java.lang.reflect.Method;
import java.util.Arrays;
import java.util.Random;

/**
 * Runs of 512 calls, as many as the document allows, on the class and on the model of the document, from fixed seeds:
 * every answer is the same. A part of the arguments lies at the edges of the ranges or outside them.
 */
public final class ModelTest {
    private static final int RUNS = 1500;
    private static final int CALLS = 512;
    /** The parameters by their kinds: B boolean, S a time, K ticks, P a peer, T a table, X a prefix, L a length. */
    private static final String[] EVENTS = {
        "setRestartTime S", "setStaleTime S", "setDeferralTime S", "addPeer B", "announce PTXL", "announce PTXL",
        "announce PTXL", "withdraw PTX", "restart B", "reconnect P", "reconnect P", "reconnect P", "disconnect P",
        "endOfTable PT", "endOfTable PT", "endOfTable PT", "tick K", "tick K"
    };
    private static final String[] QUESTIONS = {
        "isDeferring", "deferralTimer", "waitingPeers", "nextHop TX", "isEntryStale TX", "sessionState P",
        "restartTimer P", "staleTimer P", "learnedLength PTX", "isLearnedStale PTX", "forward PTX", "reachableCount P",
        "loopCount"
    };
    private static final int[] EDGES = {-1, 0, 1, 2, 4, 5, 7, 8, 20, 21, 50, 51, 100, 101,
        Integer.MIN_VALUE, Integer.MAX_VALUE};

    private final Random dice;
    private final GracefulRestart program = new GracefulRestart();
    private final Model model = new Model();
    private final int patience;

    private ModelTest(long seed) {
        dice = new Random(seed);
        // Some runs let much time pass in a call, others little, so that timers end in every order.
        patience = 1 + dice.nextInt(30);
    }

    public static void main(String[] args) throws Exception {
        Checks.sentence("An object is used for at most 512 calls after it has been made");
        int[] reached = new int[20];
        for (int seed = 0; seed < RUNS; seed++) {
            new ModelTest(seed).run("seed " + seed, reached);
        }
        // The runs mean something only if they come to every answer that can be come to.
        for (int answer = -7; answer <= 5; answer++) {
            Checks.holds("some call answers " + answer, reached[answer + 8] > 0);
        }
        Checks.finish();
    }

    private void run(String where, int[] reached) throws Exception {
        for (int call = 0; call < CALLS; call++) {
            String[] kinds = call % 2 == 0 ? EVENTS : QUESTIONS;
            String[] words = kinds[dice.nextInt(kinds.length)].split(" ");
            Object[] arguments = arguments(words.length > 1 ? words[1] : "");
            int want = answer(model, words[0], arguments);
            int got = answer(program, words[0], arguments);
            Checks.due(where + ", call " + call + ", " + words[0] + Arrays.toString(arguments), got, want);
            if (got >= -8 && got < 12) {
                reached[got + 8]++;
            }
            if (got != want) {
                return;
            }
        }
    }

    private Object[] arguments(String kinds) {
        Object[] arguments = new Object[kinds.length()];
        for (int i = 0; i < arguments.length; i++) {
            arguments[i] = argument(kinds.charAt(i));
        }
        return arguments;
    }

    private Object argument(char kind) {
        if (kind != 'B' && dice.nextInt(40) == 0) {
            return EDGES[dice.nextInt(EDGES.length)];
        }
        switch (kind) {
            case 'B': return dice.nextInt(3) > 0;
            case 'S': return 1 + dice.nextInt(dice.nextInt(4) == 0 ? 50 : 8);
            case 'K': return 1 + dice.nextInt(patience);
            case 'P': return dice.nextInt(5);
            case 'T': return dice.nextInt(2);
            case 'X': return dice.nextInt(4) == 0 ? dice.nextInt(8) : 7 * dice.nextInt(2);
            default: return 1 + dice.nextInt(dice.nextInt(2) == 0 ? 20 : 3);
        }
    }

    private static int answer(Object asked, String name, Object[] arguments) throws Exception {
        for (Method method : asked.getClass().getDeclaredMethods()) {
            if (method.getName().equals(name)) {
                return (Integer) method.invoke(asked, arguments);
            }
        }
        throw new IllegalArgumentException(name);
    }
}
