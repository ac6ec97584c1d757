/** Promises 13 to 17: isDeferring, deferralTimer, waitingPeers, nextHop and isEntryStale. */
public final class RouterTest {
    private static final int[][] NO_ROUTES = {
        {2, 0}, {-1, 0}, {0, 8}, {0, -1}, {1, 8}, {9, 9}, {-1, 8}, {2, -8},
        {Integer.MIN_VALUE, 0}, {Integer.MAX_VALUE, 0}, {0, Integer.MIN_VALUE}, {1, Integer.MAX_VALUE}
    };

    public static void main(String[] args) {
        deferring();
        waiting();
        entries();
        wrongRoutes();
        Checks.finish();
    }

    private static void deferring() {
        GracefulRestart x = Checks.withPeers("g");
        Checks.due("isDeferring()", x.isDeferring(), 0);
        Checks.due("deferralTimer()", x.deferralTimer(), 0);
        x.restart(false);
        Checks.due("isDeferring()", x.isDeferring(), 1);
        Checks.due("deferralTimer()", x.deferralTimer(), 15);
        x.tick(1);
        Checks.due("deferralTimer()", x.deferralTimer(), 14);
        x.tick(9);
        Checks.due("isDeferring(), the helper is down", x.isDeferring(), 0);
        Checks.due("deferralTimer(), stopped", x.deferralTimer(), 0);
    }

    private static void waiting() {
        GracefulRestart x = Checks.withPeers("gngng");
        Checks.due("waitingPeers(), running", x.waitingPeers(), 0);
        x.restart(true);
        Checks.due("waitingPeers()", x.waitingPeers(), 21);
        x.reconnect(4);
        Checks.due("waitingPeers(), up or helping", x.waitingPeers(), 21);
        x.endOfTable(4, 1);
        Checks.due("waitingPeers(), one mark", x.waitingPeers(), 21);
        x.endOfTable(4, 0);
        Checks.due("waitingPeers(), both marks", x.waitingPeers(), 5);
        x.disconnect(0);
        Checks.due("waitingPeers(), one is down", x.waitingPeers(), 4);
        x.disconnect(2);
        Checks.due("waitingPeers()", x.waitingPeers(), 0);
        Checks.due("isDeferring()", x.isDeferring(), 0);
        x.reconnect(0);
        Checks.due("waitingPeers(), running without marks", x.waitingPeers(), 0);
    }

    private static void entries() {
        GracefulRestart x = Checks.withPeers("gggng");
        x.announce(4, 1, 7, 1);
        Checks.due("nextHop(1, 7)", x.nextHop(1, 7), 4);
        Checks.due("isEntryStale(1, 7)", x.isEntryStale(1, 7), 0);
        Checks.due("nextHop(0, 7)", x.nextHop(0, 7), -6);
        Checks.due("isEntryStale(0, 7)", x.isEntryStale(0, 7), -6);
        x.restart(true);
        Checks.due("isEntryStale(1, 7)", x.isEntryStale(1, 7), 1);
        Checks.due("nextHop(1, 7)", x.nextHop(1, 7), 4);
        x.restart(true);
        Checks.due("isEntryStale(1, 7), still", x.isEntryStale(1, 7), 1);
        x.reconnect(4);
        x.setStaleTime(1);
        x.tick(15);
        Checks.due("nextHop(1, 7)", x.nextHop(1, 7), 4);
        Checks.due("isEntryStale(1, 7)", x.isEntryStale(1, 7), 0);
    }

    private static void wrongRoutes() {
        GracefulRestart x = Checks.withPeers("g");
        x.announce(0, 0, 0, 1);
        for (int[] route : NO_ROUTES) {
            Checks.due("nextHop", x.nextHop(route[0], route[1]), -2);
            Checks.due("isEntryStale", x.isEntryStale(route[0], route[1]), -2);
        }
    }
}
