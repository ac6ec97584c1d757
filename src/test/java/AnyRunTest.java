import java.util.Random;

/**
 * Long runs of any calls, with right and wrong arguments, from fixed seeds: nothing throws, an error changes nothing,
 * and the rules of the description hold after every call. The test keeps the offers itself, and so knows what a
 * running router must have selected. With its questions a run goes past the 512 calls of the document: the class
 * keeps no count of calls, and is held to the same rules there.
 */
public final class AnyRunTest {
    private static final int RUNS = 300;
    private static final int CALLS = 200;
    private static final int[] ODD = {-1, 8, 9, 51, 101, -8, Integer.MIN_VALUE, Integer.MAX_VALUE};

    private final Random dice;
    private final GracefulRestart x = new GracefulRestart();
    private final int[][][] offers = new int[5][2][8];
    private final boolean[] graceful = new boolean[5];
    private final boolean[][] marks = new boolean[5][2];
    private int peers = 0;

    private AnyRunTest(long seed) {
        dice = new Random(seed);
    }

    public static void main(String[] args) {
        for (int seed = 0; seed < RUNS; seed++) {
            AnyRunTest run = new AnyRunTest(seed);
            for (int call = 0; call < CALLS; call++) {
                run.step("seed " + seed + ", call " + call + ", ");
            }
        }
        Checks.finish();
    }

    private int about(int bound) {
        return dice.nextInt(25) == 0 ? ODD[dice.nextInt(ODD.length)] : dice.nextInt(bound);
    }

    private void step(String where) {
        String before = Checks.snapshot(x);
        boolean deferred = x.isDeferring() == 1;
        int kind = dice.nextInt(12);
        int answer = call(kind);
        String after = Checks.snapshot(x);
        if (answer < 0) {
            Checks.holds(where + "kind " + kind + ": an error changes nothing", before.equals(after));
        }
        if (deferred && x.isDeferring() == 1 && kind != 5) {
            Checks.holds(where + "kind " + kind + ": entries stay while deferring",
                before.split("\n")[0].split(" ", 5)[4].equals(after.split("\n")[0].split(" ", 5)[4]));
        }
        sessionsHold(where + "kind " + kind + ": ");
        if (x.isDeferring() == 1) {
            deferringHolds(where + "kind " + kind + ": ");
        } else {
            runningHolds(where + "kind " + kind + ": ");
        }
        packetsHold(where + "kind " + kind + ": ");
    }

    private int call(int kind) {
        int peer = about(Math.max(peers, 1));
        int table = about(2);
        int prefix = about(3);
        switch (kind) {
            case 0: return added(dice.nextInt(3) > 0);
            case 1: case 2: case 3: return announced(peer, table, prefix, 1 + about(20));
            case 4: return withdrawn(peer, table, prefix);
            case 5: return restarted(dice.nextBoolean());
            case 6: case 7: return x.reconnect(peer);
            case 8: return x.disconnect(peer);
            case 9: return marked(peer, table);
            case 10: return x.tick(about(6));
            default: return timed(1 + about(12));
        }
    }

    private int added(boolean kind) {
        int number = x.addPeer(kind);
        Checks.due("addPeer", number, peers < 5 ? peers : -5);
        if (number >= 0) {
            graceful[number] = kind;
            peers++;
        }
        return number;
    }

    private int announced(int peer, int table, int prefix, int length) {
        int answer = x.announce(peer, table, prefix, length);
        if (answer >= 0) {
            Checks.due("announce", answer, offers[peer][table][prefix]);
            offers[peer][table][prefix] = length;
        }
        return answer;
    }

    private int withdrawn(int peer, int table, int prefix) {
        int answer = x.withdraw(peer, table, prefix);
        if (answer >= 0) {
            Checks.due("withdraw", answer, offers[peer][table][prefix]);
            offers[peer][table][prefix] = 0;
        }
        return answer;
    }

    private int restarted(boolean preserve) {
        int up = 0;
        for (int peer = 0; peer < peers; peer++) {
            up += x.sessionState(peer) == 0 ? 1 : 0;
            marks[peer][0] = false;
            marks[peer][1] = false;
        }
        int answer = x.restart(preserve);
        Checks.due("restart", answer, up);
        return answer;
    }

    private int marked(int peer, int table) {
        int answer = x.endOfTable(peer, table);
        if (answer >= 0) {
            Checks.due("endOfTable", answer, marks[peer][table] ? 0 : 1);
            marks[peer][table] = true;
        }
        return answer;
    }

    private int timed(int ticks) {
        switch (dice.nextInt(3)) {
            case 0: return x.setRestartTime(ticks);
            case 1: return x.setStaleTime(ticks);
            default: return x.setDeferralTime(ticks);
        }
    }

    private void sessionsHold(String where) {
        for (int peer = 0; peer < peers; peer++) {
            int state = x.sessionState(peer);
            Checks.holds(where + "only helpers have a restart timer", (state == 1) == (x.restartTimer(peer) > 0));
            Checks.holds(where + "only peers that are up have a stale timer", state == 0 || x.staleTimer(peer) == 0);
            Checks.holds(where + "only graceful peers help", state != 1 || graceful[peer]);
            for (int route = 0; route < 16; route++) {
                int stale = x.isLearnedStale(peer, route / 8, route % 8);
                int length = x.learnedLength(peer, route / 8, route % 8);
                Checks.holds(where + "both or none", (stale == -6) == (length == -6) && (stale == -6 || length >= 2));
                Checks.holds(where + "helpers have stale routes alone", state != 1 || stale != 0);
                Checks.holds(where + "peers that are down have none", state != 2 || stale == -6);
            }
        }
    }

    private void deferringHolds(String where) {
        int waiting = 0;
        for (int peer = 0; peer < peers; peer++) {
            if (graceful[peer] && x.sessionState(peer) != 2 && !(marks[peer][0] && marks[peer][1])) {
                waiting |= 1 << peer;
            }
        }
        Checks.due(where + "waitingPeers()", x.waitingPeers(), waiting);
        Checks.holds(where + "deferral has a reason", waiting != 0 && x.deferralTimer() > 0);
        for (int route = 0; route < 16; route++) {
            Checks.holds(where + "no entry is fresh", x.isEntryStale(route / 8, route % 8) != 0);
        }
    }

    private void runningHolds(String where) {
        Checks.due(where + "waitingPeers()", x.waitingPeers(), 0);
        Checks.due(where + "deferralTimer()", x.deferralTimer(), 0);
        for (int route = 0; route < 16; route++) {
            int table = route / 8;
            int prefix = route % 8;
            int best = -6;
            for (int peer = peers - 1; peer >= 0; peer--) {
                int length = x.sessionState(peer) == 0 ? offers[peer][table][prefix] : 0;
                if (length > 0 && (best < 0 || length <= offers[best][table][prefix])) {
                    best = peer;
                }
            }
            Checks.due(where + "nextHop", x.nextHop(table, prefix), best);
            Checks.due(where + "isEntryStale", x.isEntryStale(table, prefix), best < 0 ? -6 : 0);
            for (int peer = 0; peer < peers; peer++) {
                if (x.sessionState(peer) == 0) {
                    boolean learns = best >= 0 && best != peer;
                    Checks.due(where + "learnedLength", x.learnedLength(peer, table, prefix),
                        learns ? offers[best][table][prefix] + 1 : -6);
                    Checks.due(where + "isLearnedStale", x.isLearnedStale(peer, table, prefix), learns ? 0 : -6);
                    Checks.due(where + "staleTimer", x.staleTimer(peer), 0);
                }
            }
        }
    }

    private void packetsHold(String where) {
        int loops = 0;
        for (int peer = 0; peer < peers; peer++) {
            int reached = 0;
            for (int route = 0; route < 16; route++) {
                int hop = x.nextHop(route / 8, route % 8);
                int way = hop == -6 ? -7 : hop == peer ? -8 : hop;
                int want = x.learnedLength(peer, route / 8, route % 8) == -6 ? -6 : way;
                Checks.due(where + "forward", x.forward(peer, route / 8, route % 8), want);
                reached += want >= 0 ? 1 : 0;
                loops += want == -8 ? 1 : 0;
            }
            Checks.due(where + "reachableCount", x.reachableCount(peer), reached);
        }
        Checks.due(where + "loopCount()", x.loopCount(), loops);
    }
}
