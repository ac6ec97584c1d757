import java.util.ArrayList;
import java.util.List;

/**
 * "An error changes nothing." Two objects stand in the same scene; one of them is asked a call that is refused. From
 * then on both are asked the same long run of calls, which brings to light times, offers, marks and timers too, and
 * must answer the same.
 */
public final class RefusedTest {
    private static final String[] SCENES = {
        // Nothing there, one peer, running with offers, and all that fits.
        "tick(1)",
        "addPeer(true)",
        "addPeer(true); addPeer(false); addPeer(true); announce(0, 0, 0, 5); announce(1, 0, 0, 5); announce(2, 1, 7, 20);"
            + "announce(2, 0, 0, 4); endOfTable(0, 0); endOfTable(2, 0); endOfTable(2, 1); disconnect(2)",
        "addPeer(true); addPeer(true); addPeer(false); addPeer(false); addPeer(true); announce(0, 0, 0, 1);"
            + "announce(1, 0, 0, 1); announce(2, 0, 0, 1); announce(3, 0, 0, 1); announce(4, 0, 0, 1)",
        // Deferring: UP with one mark, HELPING, DOWN, not graceful; with the forwarding table and without it.
        "addPeer(true); addPeer(true); addPeer(false); addPeer(true); addPeer(false); announce(0, 0, 0, 5);"
            + "announce(3, 1, 0, 2); announce(4, 0, 1, 9); disconnect(3); restart(true); tick(2); reconnect(0); reconnect(2);"
            + "endOfTable(0, 1); endOfTable(2, 0)",
        "setRestartTime(3); setStaleTime(4); setDeferralTime(5); addPeer(true); addPeer(true); addPeer(true);"
            + "announce(0, 0, 0, 5); announce(1, 0, 1, 5); restart(false); reconnect(0); tick(2)",
        // One tick before a timer ends.
        "addPeer(true); addPeer(true); addPeer(true); announce(0, 0, 0, 5); setStaleTime(9); setDeferralTime(10);"
            + "restart(true); reconnect(1); tick(8); setDeferralTime(50)",
        // Running with a helper that is still away.
        "addPeer(true); addPeer(true); announce(0, 0, 0, 5); announce(0, 0, 1, 5); announce(1, 0, 0, 4); setRestartTime(50);"
            + "setDeferralTime(1); restart(true); reconnect(0); tick(1); withdraw(0, 0, 1)"
    };
    private static final int[] TIMES = {0, 51, -1, 100, Integer.MIN_VALUE, Integer.MAX_VALUE};
    private static final int[] TICKS = {0, 101, -1, 1000, Integer.MIN_VALUE, Integer.MAX_VALUE};
    private static final int[] LENGTHS = {0, 21, -1, 255, Integer.MIN_VALUE, Integer.MAX_VALUE};
    private static final int[] NO_PEERS = {5, -1, 31, 32, Integer.MIN_VALUE, Integer.MAX_VALUE};
    private static final int[][] NO_PLACES = {
        {2, 0}, {-1, 0}, {0, 8}, {1, 8}, {0, -1}, {1, -1}, {-1, 8}, {2, -8}, {Integer.MIN_VALUE, 0}, {0, Integer.MAX_VALUE}
    };

    public static void main(String[] args) {
        Checks.sentence("An error changes nothing.");
        for (String scene : SCENES) {
            List<String> refused = refusedIn(scene);
            for (String later : laterRuns()) {
                String due = transcript(enter(scene), later);
                for (String call : refused) {
                    afterRefusal(scene, call, later, due);
                }
                afterAll(scene, refused, later, due);
            }
        }
        Checks.finish();
    }

    private static GracefulRestart enter(String scene) {
        GracefulRestart x = new GracefulRestart();
        Script.go(x, scene);
        return x;
    }

    private static void afterRefusal(String scene, String refused, String later, String due) {
        GracefulRestart x = enter(scene);
        Script.go(x, refused);
        Checks.holds(refused + " changed a later answer, behind " + scene, transcript(x, later).equals(due));
    }

    private static void afterAll(String scene, List<String> refused, String later, String due) {
        GracefulRestart x = enter(scene);
        for (String call : refused) {
            Script.go(x, call);
        }
        Checks.holds("all refused calls changed a later answer, behind " + scene, transcript(x, later).equals(due));
    }

    private static String transcript(GracefulRestart x, String run) {
        StringBuilder answers = new StringBuilder(Checks.snapshot(x));
        for (String call : run.split(";")) {
            answers.append('\n').append(call).append(" = ").append(Script.ask(x, call.strip()));
            answers.append('\n').append(Checks.snapshot(x));
        }
        return answers.toString();
    }

    /**
     * What shows hidden state: the offers; the marks, with and without a reconnection before; the times and timers;
     * another restart. A refused call in a run hides what the same call did before it, so no run has all of them.
     */
    private static String[] laterRuns() {
        StringBuilder offers = new StringBuilder("reconnect(0)");
        StringBuilder marks = new StringBuilder("tick(1)");
        StringBuilder bareMarks = new StringBuilder("tick(1)");
        for (int peer = 0; peer < 5; peer++) {
            for (int route = 0; route < 16; route++) {
                offers.append(";withdraw(" + peer + ", " + route / 8 + ", " + route % 8 + ")");
            }
            marks.append(";reconnect(" + peer + ")");
            marks.append(";endOfTable(" + peer + ", 0);endOfTable(" + peer + ", 1)");
            bareMarks.append(";endOfTable(" + peer + ", 0);endOfTable(" + peer + ", 1)");
        }
        String times = "restart(true);setRestartTime(3);setStaleTime(4);setDeferralTime(6);reconnect(0);reconnect(1)"
            + ";tick(1);tick(1);restart(true);tick(1);reconnect(2);reconnect(3);tick(1);tick(1);tick(1);tick(1);tick(1)";
        String more = "tick(1);addPeer(true);tick(1);reconnect(1);disconnect(0);restart(false);reconnect(0);tick(100)";
        return new String[] {offers.toString(), marks.toString(), bareMarks.toString(), times, more};
    }

    /** Every kind of refused call in a scene, each with the error that is due. */
    private static List<String> refusedIn(String scene) {
        List<String> calls = new ArrayList<>();
        for (int i = 0; i < TIMES.length; i++) {
            calls.add("setRestartTime(" + TIMES[i] + ") = -3");
            calls.add("setStaleTime(" + TIMES[i] + ") = -3");
            calls.add("setDeferralTime(" + TIMES[i] + ") = -3");
            calls.add("tick(" + TICKS[i] + ") = -3");
            noSuchPeer(calls, NO_PEERS[i]);
        }
        GracefulRestart x = enter(scene);
        for (int peer = 0; peer < 5; peer++) {
            if (x.sessionState(peer) < 0) {
                noSuchPeer(calls, peer);
            } else {
                wrongPlaces(calls, peer);
                wrongStates(calls, peer, x.sessionState(peer));
            }
        }
        for (int[] place : NO_PLACES) {
            calls.add("nextHop(" + place[0] + ", " + place[1] + ") = -2");
            calls.add("isEntryStale(" + place[0] + ", " + place[1] + ") = -2");
        }
        if (x.sessionState(4) >= 0) {
            calls.add("addPeer(true) = -5");
            calls.add("addPeer(false) = -5");
        }
        return calls;
    }

    private static void noSuchPeer(List<String> calls, int peer) {
        for (String call : new String[] {"announce(#, 0, 0, 1)", "withdraw(#, 0, 0)", "reconnect(#)", "disconnect(#)",
            "endOfTable(#, 1)", "sessionState(#)", "restartTimer(#)", "staleTimer(#)", "learnedLength(#, 0, 0)",
            "isLearnedStale(#, 0, 0)", "forward(#, 0, 0)", "reachableCount(#)"}) {
            calls.add(call.replace("#", "" + peer) + " = -1");
        }
    }

    private static void wrongPlaces(List<String> calls, int peer) {
        for (int[] place : NO_PLACES) {
            String where = "(" + peer + ", " + place[0] + ", " + place[1];
            calls.add("announce" + where + ", 1) = -2");
            for (String name : new String[] {"withdraw", "learnedLength", "isLearnedStale", "forward"}) {
                calls.add(name + where + ") = -2");
            }
        }
        for (int table : new int[] {2, -1, 31, 32, Integer.MIN_VALUE, Integer.MAX_VALUE}) {
            calls.add("endOfTable(" + peer + ", " + table + ") = -2");
        }
        for (int length : LENGTHS) {
            calls.add("announce(" + peer + ", 0, 0, " + length + ") = -3");
            calls.add("announce(" + peer + ", 1, 7, " + length + ") = -3");
        }
        // No scene has an offer here: not an error, but nothing changes either.
        calls.add("withdraw(" + peer + ", 1, 4) = -6");
    }

    private static void wrongStates(List<String> calls, int peer, int state) {
        if (state == GracefulRestart.UP) {
            calls.add("reconnect(" + peer + ") = -4");
        } else {
            calls.add("endOfTable(" + peer + ", 0) = -4");
            calls.add("endOfTable(" + peer + ", 1) = -4");
        }
        if (state == GracefulRestart.DOWN) {
            calls.add("disconnect(" + peer + ") = -4");
        }
    }
}
