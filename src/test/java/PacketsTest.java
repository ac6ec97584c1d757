/** Promises 23 to 25: forward, reachableCount and loopCount. */
public final class PacketsTest {
    public static void main(String[] args) {
        delivered();
        dropped();
        overLostSessions();
        errors();
        Checks.finish();
    }

    private static void delivered() {
        GracefulRestart x = Checks.withPeers("ggn");
        x.announce(1, 0, 0, 3);
        x.announce(2, 1, 7, 3);
        x.announce(0, 1, 0, 3);
        Checks.due("forward(0, 0, 0)", x.forward(0, 0, 0), 1);
        Checks.due("forward(2, 0, 0)", x.forward(2, 0, 0), 1);
        Checks.due("forward(1, 0, 0), the next hop itself", x.forward(1, 0, 0), -6);
        Checks.due("forward(1, 1, 0)", x.forward(1, 1, 0), 0);
        Checks.due("forward(0, 0, 1), no route", x.forward(0, 0, 1), -6);
        Checks.due("reachableCount(0)", x.reachableCount(0), 2);
        Checks.due("reachableCount(1)", x.reachableCount(1), 2);
        Checks.due("reachableCount(2)", x.reachableCount(2), 2);
        Checks.due("loopCount()", x.loopCount(), 0);
        for (int prefix = 0; prefix < 8; prefix++) {
            x.announce(0, 0, prefix, 1);
            x.announce(0, 1, prefix, 1);
        }
        Checks.due("reachableCount(2), all", x.reachableCount(2), 16);
        Checks.due("reachableCount(0), none", x.reachableCount(0), 0);
    }

    private static void dropped() {
        GracefulRestart x = Checks.withPeers("ggn");
        x.announce(0, 0, 0, 3);
        x.restart(false);
        Checks.due("forward(1, 0, 0)", x.forward(1, 0, 0), -7);
        Checks.due("forward(2, 0, 0), down", x.forward(2, 0, 0), -6);
        Checks.due("forward(0, 0, 0), no route", x.forward(0, 0, 0), -6);
        Checks.due("reachableCount(1)", x.reachableCount(1), 0);
        Checks.due("loopCount()", x.loopCount(), 0);
    }

    private static void overLostSessions() {
        GracefulRestart x = Checks.withPeers("ggg");
        x.announce(0, 0, 0, 3);
        x.announce(0, 0, 1, 3);
        x.restart(true);
        x.disconnect(0);
        Checks.due("forward(1, 0, 0), helper to one that is down", x.forward(1, 0, 0), 0);
        Checks.due("reachableCount(1)", x.reachableCount(1), 2);
        x.reconnect(1);
        Checks.due("forward(1, 0, 0), stale route", x.forward(1, 0, 0), 0);
        x.disconnect(1);
        Checks.due("forward(1, 0, 0), route gone", x.forward(1, 0, 0), -6);
        Checks.due("reachableCount(1)", x.reachableCount(1), 0);
        Checks.due("reachableCount(2)", x.reachableCount(2), 2);
    }

    private static void errors() {
        GracefulRestart x = Checks.withPeers("gg");
        x.announce(0, 0, 0, 3);
        for (int peer : new int[] {2, 5, -1, Integer.MIN_VALUE, Integer.MAX_VALUE}) {
            Checks.due("forward(" + peer + ", 9, 9)", x.forward(peer, 9, 9), -1);
            Checks.due("forward(" + peer + ", 0, 0)", x.forward(peer, 0, 0), -1);
            Checks.due("reachableCount(" + peer + ")", x.reachableCount(peer), -1);
        }
        for (int[] route : new int[][] {{2, 0}, {-1, 0}, {0, 8}, {0, -1}, {1, 8}, {-1, 8}}) {
            Checks.due("forward", x.forward(1, route[0], route[1]), -2);
        }
    }
}
