/** Promises 5 to 7: addPeer, announce and withdraw, and the selection that follows them. */
public final class OffersTest {
    public static void main(String[] args) {
        peersAreNumbered();
        newPeerLearnsSelectedRoutes();
        newPeerWhileDeferring();
        shortestPathWins();
        lowestNumberWinsAmongEquals();
        replacedOffers();
        routesAreSeparate();
        announceErrors();
        offersOfLostSessions();
        offersWhileDeferring();
        withdrawals();
        withdrawErrors();
        Checks.finish();
    }

    private static void peersAreNumbered() {
        GracefulRestart x = new GracefulRestart();
        for (int number = 0; number < 5; number++) {
            Checks.due("addPeer", x.addPeer(number % 2 == 0), number);
            Checks.due("sessionState", x.sessionState(number), GracefulRestart.UP);
            Checks.due("restartTimer", x.restartTimer(number), 0);
            Checks.due("staleTimer", x.staleTimer(number), 0);
        }
        Checks.due("addPeer(true), full", x.addPeer(true), -5);
        Checks.due("addPeer(false), full", x.addPeer(false), -5);
        x.disconnect(2);
        Checks.due("addPeer(true), still full", x.addPeer(true), -5);
        Checks.due("sessionState(5)", x.sessionState(5), -1);
    }

    private static void newPeerLearnsSelectedRoutes() {
        GracefulRestart x = Checks.withPeers("g");
        x.announce(0, 0, 0, 20);
        x.announce(0, 1, 7, 1);
        Checks.due("addPeer(false)", x.addPeer(false), 1);
        Checks.due("learnedLength(1, 0, 0)", x.learnedLength(1, 0, 0), 21);
        Checks.due("learnedLength(1, 1, 7)", x.learnedLength(1, 1, 7), 2);
        Checks.due("isLearnedStale(1, 1, 7)", x.isLearnedStale(1, 1, 7), 0);
        Checks.due("learnedLength(1, 0, 7)", x.learnedLength(1, 0, 7), -6);
        Checks.due("reconnect(1)", x.reconnect(1), -4);
    }

    private static void newPeerWhileDeferring() {
        GracefulRestart x = Checks.withPeers("g");
        x.announce(0, 0, 0, 3);
        x.restart(true);
        Checks.due("addPeer(true)", x.addPeer(true), 1);
        Checks.due("addPeer(false)", x.addPeer(false), 2);
        Checks.due("waitingPeers()", x.waitingPeers(), 3);
        Checks.due("learnedLength(1, 0, 0)", x.learnedLength(1, 0, 0), -6);
        Checks.due("learnedLength(2, 0, 0)", x.learnedLength(2, 0, 0), -6);
        Checks.due("sessionState(1)", x.sessionState(1), 0);
        x.reconnect(0);
        Checks.markBoth(x, 0);
        Checks.due("waitingPeers() for the new one", x.waitingPeers(), 2);
        Checks.markBoth(x, 1);
        Checks.due("isDeferring()", x.isDeferring(), 0);
        Checks.due("learnedLength(1, 0, 0)", x.learnedLength(1, 0, 0), 4);
        Checks.due("learnedLength(2, 0, 0)", x.learnedLength(2, 0, 0), 4);
    }

    private static void shortestPathWins() {
        GracefulRestart x = Checks.withPeers("gnn");
        x.announce(0, 1, 2, 9);
        x.announce(1, 1, 2, 8);
        Checks.due("nextHop(1, 2)", x.nextHop(1, 2), 1);
        Checks.due("learnedLength(0, 1, 2)", x.learnedLength(0, 1, 2), 9);
        Checks.due("learnedLength(1, 1, 2)", x.learnedLength(1, 1, 2), -6);
        Checks.due("learnedLength(2, 1, 2)", x.learnedLength(2, 1, 2), 9);
        x.announce(0, 1, 2, 7);
        Checks.due("nextHop(1, 2)", x.nextHop(1, 2), 0);
        Checks.due("the next hop forgets", x.learnedLength(0, 1, 2), -6);
        Checks.due("the other learns", x.learnedLength(1, 1, 2), 8);
        Checks.due("isEntryStale(1, 2)", x.isEntryStale(1, 2), 0);
    }

    private static void lowestNumberWinsAmongEquals() {
        GracefulRestart x = Checks.withPeers("ggg");
        x.announce(2, 0, 5, 6);
        x.announce(1, 0, 5, 6);
        Checks.due("nextHop(0, 5)", x.nextHop(0, 5), 1);
        x.announce(0, 0, 5, 7);
        Checks.due("nextHop(0, 5)", x.nextHop(0, 5), 1);
        x.announce(0, 0, 5, 6);
        Checks.due("nextHop(0, 5)", x.nextHop(0, 5), 0);
    }

    private static void replacedOffers() {
        GracefulRestart x = Checks.withPeers("gg");
        Checks.due("announce(0, 0, 0, 1)", x.announce(0, 0, 0, 1), 0);
        Checks.due("announce(0, 0, 0, 20)", x.announce(0, 0, 0, 20), 1);
        Checks.due("announce(0, 0, 0, 20)", x.announce(0, 0, 0, 20), 20);
        Checks.due("learnedLength(1, 0, 0)", x.learnedLength(1, 0, 0), 21);
        Checks.due("another peer's offer", x.announce(1, 0, 0, 19), 0);
        Checks.due("nextHop(0, 0)", x.nextHop(0, 0), 1);
    }

    private static void routesAreSeparate() {
        GracefulRestart x = Checks.withPeers("gg");
        for (int table = 0; table < 2; table++) {
            for (int prefix = 0; prefix < 8; prefix++) {
                Checks.due("announce", x.announce(0, table, prefix, 1 + table * 8 + prefix), 0);
            }
        }
        for (int table = 0; table < 2; table++) {
            for (int prefix = 0; prefix < 8; prefix++) {
                Checks.due("learnedLength", x.learnedLength(1, table, prefix), 2 + table * 8 + prefix);
            }
        }
    }

    private static void announceErrors() {
        GracefulRestart x = Checks.withPeers("gg");
        x.announce(0, 0, 0, 5);
        String before = Checks.snapshot(x);
        Checks.due("announce(2, 0, 0, 1)", x.announce(2, 0, 0, 1), -1);
        Checks.due("announce(-1, 9, 9, 0)", x.announce(-1, 9, 9, 0), -1);
        Checks.due("announce(5, 0, 0, 1)", x.announce(5, 0, 0, 1), -1);
        Checks.due("announce(MIN, ..)", x.announce(Integer.MIN_VALUE, 0, 0, 1), -1);
        Checks.due("announce(MAX, ..)", x.announce(Integer.MAX_VALUE, 0, 0, 1), -1);
        Checks.due("announce(0, 2, 0, 0)", x.announce(0, 2, 0, 0), -2);
        Checks.due("announce(0, -1, 0, 1)", x.announce(0, -1, 0, 1), -2);
        Checks.due("announce(0, 0, 8, 1)", x.announce(0, 0, 8, 1), -2);
        Checks.due("announce(0, 1, -1, 1)", x.announce(0, 1, -1, 1), -2);
        Checks.due("announce(0, 0, 0, 0)", x.announce(0, 0, 0, 0), -3);
        Checks.due("announce(0, 0, 0, 21)", x.announce(0, 0, 0, 21), -3);
        Checks.due("announce(0, 0, 0, -1)", x.announce(0, 0, 0, -1), -3);
        Checks.holds("announce's errors change nothing", before.equals(Checks.snapshot(x)));
        Checks.due("the offer stays", x.withdraw(0, 0, 0), 5);
    }

    private static void offersOfLostSessions() {
        GracefulRestart x = Checks.withPeers("gg");
        x.announce(0, 0, 0, 5);
        x.disconnect(0);
        Checks.due("nextHop(0, 0)", x.nextHop(0, 0), -6);
        Checks.due("announce while down", x.announce(0, 0, 0, 4), 5);
        Checks.due("announce while down", x.announce(0, 0, 1, 3), 0);
        Checks.due("nextHop(0, 1)", x.nextHop(0, 1), -6);
        Checks.due("learnedLength(1, 0, 1)", x.learnedLength(1, 0, 1), -6);
        Checks.due("withdraw while down", x.withdraw(0, 0, 1), 3);
        Checks.due("reconnect(0)", x.reconnect(0), 1);
        Checks.due("nextHop(0, 0)", x.nextHop(0, 0), 0);
        Checks.due("learnedLength(1, 0, 0)", x.learnedLength(1, 0, 0), 5);
    }

    private static void offersWhileDeferring() {
        GracefulRestart x = Checks.withPeers("gg");
        x.announce(0, 0, 0, 5);
        x.restart(true);
        Checks.due("announce while helping", x.announce(1, 0, 0, 2), 0);
        x.reconnect(1);
        Checks.due("announce while deferring", x.announce(1, 0, 1, 2), 0);
        Checks.due("nextHop(0, 0)", x.nextHop(0, 0), 0);
        Checks.due("isEntryStale(0, 0)", x.isEntryStale(0, 0), 1);
        Checks.due("nextHop(0, 1)", x.nextHop(0, 1), -6);
        Checks.due("withdraw while deferring", x.withdraw(0, 0, 0), 5);
        Checks.due("nextHop(0, 0)", x.nextHop(0, 0), 0);
        x.reconnect(0);
        Checks.markBoth(x, 0);
        Checks.markBoth(x, 1);
        Checks.due("nextHop(0, 0)", x.nextHop(0, 0), 1);
        Checks.due("nextHop(0, 1)", x.nextHop(0, 1), 1);
        Checks.due("learnedLength(0, 0, 0)", x.learnedLength(0, 0, 0), 3);
        Checks.due("learnedLength(1, 0, 0)", x.learnedLength(1, 0, 0), -6);
    }

    private static void withdrawals() {
        GracefulRestart x = Checks.withPeers("ggn");
        x.announce(0, 0, 0, 4);
        x.announce(1, 0, 0, 6);
        Checks.due("withdraw(0, 0, 0)", x.withdraw(0, 0, 0), 4);
        Checks.due("nextHop(0, 0)", x.nextHop(0, 0), 1);
        Checks.due("learnedLength(0, 0, 0)", x.learnedLength(0, 0, 0), 7);
        Checks.due("learnedLength(1, 0, 0)", x.learnedLength(1, 0, 0), -6);
        Checks.due("learnedLength(2, 0, 0)", x.learnedLength(2, 0, 0), 7);
        Checks.due("withdraw(0, 0, 0) again", x.withdraw(0, 0, 0), -6);
        Checks.due("withdraw(1, 0, 0)", x.withdraw(1, 0, 0), 6);
        Checks.due("nextHop(0, 0)", x.nextHop(0, 0), -6);
        Checks.due("learnedLength(2, 0, 0)", x.learnedLength(2, 0, 0), -6);
        Checks.due("announce after a withdrawal", x.announce(1, 0, 0, 6), 0);
    }

    private static void withdrawErrors() {
        GracefulRestart x = Checks.withPeers("gg");
        x.announce(0, 0, 0, 4);
        String before = Checks.snapshot(x);
        Checks.due("withdraw(2, 9, 9)", x.withdraw(2, 9, 9), -1);
        Checks.due("withdraw(-1, 0, 0)", x.withdraw(-1, 0, 0), -1);
        Checks.due("withdraw(0, 2, 0)", x.withdraw(0, 2, 0), -2);
        Checks.due("withdraw(0, -1, 0)", x.withdraw(0, -1, 0), -2);
        Checks.due("withdraw(0, 0, 8)", x.withdraw(0, 0, 8), -2);
        Checks.due("withdraw(0, 1, -1)", x.withdraw(0, 1, -1), -2);
        Checks.due("withdraw(0, 1, 0)", x.withdraw(0, 1, 0), -6);
        Checks.due("withdraw(1, 0, 0)", x.withdraw(1, 0, 0), -6);
        Checks.holds("withdraw's errors change nothing", before.equals(Checks.snapshot(x)));
    }
}
