/** Promises 18 to 22: sessionState, restartTimer, staleTimer, learnedLength and isLearnedStale. */
public final class PeersTest {
    public static void main(String[] args) {
        states();
        timers();
        learned();
        wrongPeers();
        wrongRoutes();
        Checks.finish();
    }

    private static void states() {
        GracefulRestart x = Checks.withPeers("gn");
        Checks.due("sessionState(0)", x.sessionState(0), 0);
        x.restart(true);
        Checks.due("sessionState(0)", x.sessionState(0), 1);
        Checks.due("sessionState(1)", x.sessionState(1), 2);
        x.reconnect(0);
        Checks.due("sessionState(0)", x.sessionState(0), 0);
        x.disconnect(0);
        Checks.due("sessionState(0)", x.sessionState(0), 2);
    }

    private static void timers() {
        GracefulRestart x = Checks.withPeers("ggn");
        x.restart(true);
        x.tick(3);
        Checks.due("restartTimer(0)", x.restartTimer(0), 7);
        Checks.due("restartTimer(2)", x.restartTimer(2), 0);
        Checks.due("staleTimer(0)", x.staleTimer(0), 0);
        x.reconnect(0);
        x.tick(5);
        Checks.due("restartTimer(0)", x.restartTimer(0), 0);
        Checks.due("staleTimer(0)", x.staleTimer(0), 15);
        Checks.due("restartTimer(1)", x.restartTimer(1), 2);
        Checks.due("staleTimer(1)", x.staleTimer(1), 0);
        x.restart(true);
        Checks.due("restartTimer(0)", x.restartTimer(0), 10);
        Checks.due("staleTimer(0)", x.staleTimer(0), 0);
        Checks.due("restartTimer(1)", x.restartTimer(1), 2);
    }

    private static void learned() {
        GracefulRestart x = Checks.withPeers("gg");
        x.announce(0, 1, 0, 20);
        Checks.due("learnedLength(1, 1, 0)", x.learnedLength(1, 1, 0), 21);
        Checks.due("isLearnedStale(1, 1, 0)", x.isLearnedStale(1, 1, 0), 0);
        Checks.due("learnedLength(0, 1, 0)", x.learnedLength(0, 1, 0), -6);
        Checks.due("isLearnedStale(0, 1, 0)", x.isLearnedStale(0, 1, 0), -6);
        x.restart(false);
        Checks.due("learnedLength(1, 1, 0)", x.learnedLength(1, 1, 0), 21);
        Checks.due("isLearnedStale(1, 1, 0)", x.isLearnedStale(1, 1, 0), 1);
        Checks.due("isLearnedStale(1, 1, 1)", x.isLearnedStale(1, 1, 1), -6);
        x.tick(10);
        Checks.due("learnedLength(1, 1, 0)", x.learnedLength(1, 1, 0), -6);
        Checks.due("isLearnedStale(1, 1, 0)", x.isLearnedStale(1, 1, 0), -6);
    }

    private static void wrongPeers() {
        GracefulRestart x = Checks.withPeers("gg");
        for (int peer : new int[] {2, 4, 5, -1, Integer.MIN_VALUE, Integer.MAX_VALUE}) {
            Checks.due("sessionState(" + peer + ")", x.sessionState(peer), -1);
            Checks.due("restartTimer(" + peer + ")", x.restartTimer(peer), -1);
            Checks.due("staleTimer(" + peer + ")", x.staleTimer(peer), -1);
            Checks.due("learnedLength(" + peer + ", 9, 9)", x.learnedLength(peer, 9, 9), -1);
            Checks.due("isLearnedStale(" + peer + ", 9, 9)", x.isLearnedStale(peer, 9, 9), -1);
            Checks.due("learnedLength(" + peer + ", 0, 0)", x.learnedLength(peer, 0, 0), -1);
            Checks.due("isLearnedStale(" + peer + ", 0, 0)", x.isLearnedStale(peer, 0, 0), -1);
        }
    }

    private static void wrongRoutes() {
        GracefulRestart x = Checks.withPeers("gg");
        for (int[] route : new int[][] {{2, 0}, {-1, 0}, {0, 8}, {0, -1}, {1, 8}, {-1, 8}, {Integer.MAX_VALUE, 7}}) {
            Checks.due("learnedLength", x.learnedLength(1, route[0], route[1]), -2);
            Checks.due("isLearnedStale", x.isLearnedStale(1, route[0], route[1]), -2);
        }
    }
}
