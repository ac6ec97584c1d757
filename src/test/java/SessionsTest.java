/** Promises 8 to 11: restart, reconnect, disconnect and endOfTable. */
public final class SessionsTest {
    public static void main(String[] args) {
        restartWithoutHelpers();
        restartPreserves();
        restartLoses();
        restartLeavesLostSessionsAlone();
        restartWhileDeferring();
        restartErasesMarks();
        reconnectAnswers();
        reconnectWhileDeferring();
        reconnectWhileRunning();
        reconnectFromDownStartsNoTimer();
        downPeerIsAwaitedAgain();
        disconnectWhileRunning();
        disconnectHelper();
        disconnectEndsDeferral();
        disconnectErrors();
        endOfTableAnswers();
        marksOutliveTheSession();
        marksOfOthersHaveNoEffect();
        endOfTableErrors();
        endOfDeferralCleansUp();
        Checks.finish();
    }

    private static void restartWithoutHelpers() {
        GracefulRestart x = new GracefulRestart();
        Checks.due("restart(true), no peers", x.restart(true), 0);
        Checks.due("isDeferring()", x.isDeferring(), 0);
        Checks.due("deferralTimer()", x.deferralTimer(), 0);
        x.addPeer(false);
        x.addPeer(false);
        x.announce(0, 0, 0, 3);
        Checks.due("restart(true)", x.restart(true), 2);
        Checks.due("isDeferring()", x.isDeferring(), 0);
        Checks.due("nextHop(0, 0), selected without offers", x.nextHop(0, 0), -6);
        Checks.due("sessionState(0)", x.sessionState(0), 2);
        Checks.due("learnedLength(1, 0, 0)", x.learnedLength(1, 0, 0), -6);
        Checks.due("restart(true), all are down", x.restart(true), 0);
    }

    private static void restartPreserves() {
        GracefulRestart x = Checks.withPeers("ggn");
        x.announce(0, 0, 0, 3);
        x.announce(2, 1, 0, 3);
        Checks.due("restart(true)", x.restart(true), 3);
        Checks.due("isDeferring()", x.isDeferring(), 1);
        Checks.due("deferralTimer()", x.deferralTimer(), 15);
        Checks.due("waitingPeers()", x.waitingPeers(), 3);
        Checks.due("nextHop(0, 0)", x.nextHop(0, 0), 0);
        Checks.due("isEntryStale(0, 0)", x.isEntryStale(0, 0), 1);
        Checks.due("nextHop(1, 0) over a peer that is down", x.nextHop(1, 0), 2);
        Checks.due("isEntryStale(0, 1)", x.isEntryStale(0, 1), -6);
        Checks.due("sessionState(1)", x.sessionState(1), 1);
        Checks.due("sessionState(2)", x.sessionState(2), 2);
        Checks.due("restartTimer(1)", x.restartTimer(1), 10);
        Checks.due("restartTimer(2)", x.restartTimer(2), 0);
        Checks.due("staleTimer(1)", x.staleTimer(1), 0);
        Checks.due("isLearnedStale(1, 0, 0)", x.isLearnedStale(1, 0, 0), 1);
        Checks.due("learnedLength(1, 0, 0)", x.learnedLength(1, 0, 0), 4);
        Checks.due("learnedLength(2, 0, 0)", x.learnedLength(2, 0, 0), -6);
        Checks.due("learnedLength(0, 0, 0)", x.learnedLength(0, 0, 0), -6);
    }

    private static void restartLoses() {
        GracefulRestart x = Checks.withPeers("gg");
        x.announce(0, 0, 0, 3);
        Checks.due("restart(false)", x.restart(false), 2);
        Checks.due("nextHop(0, 0)", x.nextHop(0, 0), -6);
        Checks.due("isEntryStale(0, 0)", x.isEntryStale(0, 0), -6);
        Checks.due("isLearnedStale(1, 0, 0)", x.isLearnedStale(1, 0, 0), 1);
        x.reconnect(0);
        Checks.markBoth(x, 0);
        x.disconnect(1);
        Checks.due("nextHop(0, 0) after deferral", x.nextHop(0, 0), 0);
        Checks.due("isEntryStale(0, 0) after deferral", x.isEntryStale(0, 0), 0);
    }

    private static void restartLeavesLostSessionsAlone() {
        GracefulRestart x = Checks.withPeers("ggg");
        x.announce(0, 0, 0, 3);
        x.disconnect(2);
        Checks.due("restart(true)", x.restart(true), 2);
        x.tick(4);
        x.setRestartTime(30);
        Checks.due("restart(true), all are lost", x.restart(true), 0);
        Checks.due("restartTimer(0) goes on", x.restartTimer(0), 6);
        Checks.due("learned routes of a helper stay", x.learnedLength(1, 0, 0), 4);
        Checks.due("sessionState(2)", x.sessionState(2), 2);
        Checks.due("restartTimer(2)", x.restartTimer(2), 0);
        Checks.due("deferralTimer() starts anew", x.deferralTimer(), 15);
        Checks.due("waitingPeers()", x.waitingPeers(), 3);
    }

    private static void restartWhileDeferring() {
        GracefulRestart x = Checks.withPeers("gg");
        x.announce(0, 0, 0, 3);
        x.restart(true);
        x.tick(3);
        x.reconnect(1);
        Checks.due("staleTimer(1)", x.staleTimer(1), 20);
        Checks.due("learnedLength(1, 0, 0)", x.learnedLength(1, 0, 0), 4);
        Checks.due("restart(true)", x.restart(true), 1);
        Checks.due("what was stale already is removed", x.learnedLength(1, 0, 0), -6);
        Checks.due("staleTimer(1)", x.staleTimer(1), 0);
        Checks.due("restartTimer(1)", x.restartTimer(1), 10);
        Checks.due("restartTimer(0)", x.restartTimer(0), 7);
        Checks.due("isEntryStale(0, 0)", x.isEntryStale(0, 0), 1);
        Checks.due("deferralTimer()", x.deferralTimer(), 15);
        Checks.due("restart(false)", x.restart(false), 0);
        Checks.due("nextHop(0, 0)", x.nextHop(0, 0), -6);
    }

    private static void restartErasesMarks() {
        GracefulRestart x = Checks.withPeers("ggn");
        Checks.markBoth(x, 0);
        Checks.markBoth(x, 1);
        Checks.markBoth(x, 2);
        x.disconnect(1);
        x.restart(true);
        Checks.due("waitingPeers()", x.waitingPeers(), 1);
        x.reconnect(1);
        Checks.due("waitingPeers(), marks of a peer that was down", x.waitingPeers(), 3);
        x.reconnect(0);
        x.reconnect(2);
        Checks.due("endOfTable(0, 0) is new", x.endOfTable(0, 0), 1);
        Checks.due("endOfTable(1, 1) is new", x.endOfTable(1, 1), 1);
        Checks.due("endOfTable(2, 1) is new", x.endOfTable(2, 1), 1);
    }

    private static void reconnectAnswers() {
        GracefulRestart x = Checks.withPeers("gn");
        x.announce(0, 0, 0, 3);
        x.announce(0, 0, 7, 3);
        x.announce(0, 1, 7, 3);
        x.announce(1, 1, 1, 3);
        String before = Checks.snapshot(x);
        Checks.due("reconnect(0), up", x.reconnect(0), -4);
        Checks.due("reconnect(2)", x.reconnect(2), -1);
        Checks.due("reconnect(-1)", x.reconnect(-1), -1);
        Checks.due("reconnect(5)", x.reconnect(5), -1);
        Checks.due("reconnect(MAX)", x.reconnect(Integer.MAX_VALUE), -1);
        Checks.holds("reconnect's errors change nothing", before.equals(Checks.snapshot(x)));
        x.disconnect(0);
        Checks.due("reconnect(0)", x.reconnect(0), 3);
        x.restart(true);
        Checks.due("reconnect(1)", x.reconnect(1), 1);
        Checks.due("reconnect(1), up", x.reconnect(1), -4);
        Checks.due("reconnect(0), helping", x.reconnect(0), 3);
    }

    private static void reconnectWhileDeferring() {
        GracefulRestart x = Checks.withPeers("gg");
        x.announce(0, 0, 0, 3);
        x.restart(true);
        x.tick(1);
        x.reconnect(1);
        Checks.due("sessionState(1)", x.sessionState(1), 0);
        Checks.due("restartTimer(1)", x.restartTimer(1), 0);
        Checks.due("staleTimer(1)", x.staleTimer(1), 20);
        Checks.due("isLearnedStale(1, 0, 0)", x.isLearnedStale(1, 0, 0), 1);
        Checks.due("isDeferring()", x.isDeferring(), 1);
        Checks.due("isEntryStale(0, 0)", x.isEntryStale(0, 0), 1);
        Checks.due("waitingPeers()", x.waitingPeers(), 3);
    }

    private static void reconnectWhileRunning() {
        GracefulRestart x = Checks.withPeers("gggn");
        x.announce(0, 0, 0, 3);
        x.announce(0, 0, 1, 3);
        x.announce(1, 0, 2, 1);
        x.announce(3, 0, 3, 3);
        x.setRestartTime(50);
        x.setDeferralTime(2);
        x.restart(true);
        x.reconnect(0);
        x.tick(2);
        Checks.due("isDeferring()", x.isDeferring(), 0);
        Checks.due("sessionState(1)", x.sessionState(1), 1);
        Checks.due("a helper still has stale routes", x.isLearnedStale(1, 0, 1), 1);
        Checks.due("also over one that is down", x.isLearnedStale(1, 0, 3), 1);
        x.withdraw(0, 0, 1);
        x.announce(0, 0, 0, 6);
        Checks.due("a helper is not updated", x.learnedLength(1, 0, 0), 4);
        Checks.due("reconnect(1)", x.reconnect(1), 1);
        Checks.due("learnedLength(1, 0, 0)", x.learnedLength(1, 0, 0), 7);
        Checks.due("isLearnedStale(1, 0, 0)", x.isLearnedStale(1, 0, 0), 0);
        Checks.due("learnedLength(1, 0, 1), removed", x.learnedLength(1, 0, 1), -6);
        Checks.due("learnedLength(1, 0, 3), removed", x.learnedLength(1, 0, 3), -6);
        Checks.due("staleTimer(1)", x.staleTimer(1), 0);
        Checks.due("restartTimer(1)", x.restartTimer(1), 0);
        Checks.due("nextHop(0, 2)", x.nextHop(0, 2), 1);
        Checks.due("learnedLength(0, 0, 2)", x.learnedLength(0, 0, 2), 2);
        Checks.due("another helper keeps its routes", x.isLearnedStale(2, 0, 1), 1);
        Checks.due("another helper keeps its timer", x.restartTimer(2), 48);
    }

    private static void reconnectFromDownStartsNoTimer() {
        GracefulRestart x = Checks.withPeers("ggn");
        x.disconnect(0);
        x.restart(true);
        x.reconnect(0);
        x.reconnect(2);
        Checks.due("staleTimer(0)", x.staleTimer(0), 0);
        Checks.due("staleTimer(2)", x.staleTimer(2), 0);
        Checks.due("sessionState(2)", x.sessionState(2), 0);
    }

    private static void downPeerIsAwaitedAgain() {
        GracefulRestart x = Checks.withPeers("gg");
        x.disconnect(0);
        x.restart(true);
        Checks.due("waitingPeers()", x.waitingPeers(), 2);
        x.reconnect(0);
        Checks.due("waitingPeers()", x.waitingPeers(), 3);
    }

    private static void disconnectWhileRunning() {
        GracefulRestart x = Checks.withPeers("gng");
        x.announce(0, 0, 0, 3);
        x.announce(1, 0, 0, 5);
        x.announce(1, 1, 0, 5);
        Checks.due("disconnect(0)", x.disconnect(0), 1);
        Checks.due("sessionState(0)", x.sessionState(0), 2);
        Checks.due("nextHop(0, 0)", x.nextHop(0, 0), 1);
        Checks.due("learnedLength(0, 1, 0)", x.learnedLength(0, 1, 0), -6);
        Checks.due("learnedLength(1, 0, 0)", x.learnedLength(1, 0, 0), -6);
        Checks.due("learnedLength(2, 0, 0)", x.learnedLength(2, 0, 0), 6);
        Checks.due("disconnect(2)", x.disconnect(2), 2);
        Checks.due("disconnect(1)", x.disconnect(1), 0);
        Checks.due("nextHop(0, 0)", x.nextHop(0, 0), -6);
        Checks.due("reconnect(0) learns nothing of the past", x.reconnect(0), 1);
        Checks.due("learnedLength(0, 1, 0)", x.learnedLength(0, 1, 0), -6);
    }

    private static void disconnectHelper() {
        GracefulRestart x = Checks.withPeers("gg");
        x.announce(0, 0, 0, 3);
        x.announce(0, 1, 0, 3);
        x.restart(true);
        Checks.due("disconnect(1), helping", x.disconnect(1), 2);
        Checks.due("sessionState(1)", x.sessionState(1), 2);
        Checks.due("restartTimer(1)", x.restartTimer(1), 0);
        Checks.due("waitingPeers()", x.waitingPeers(), 1);
        Checks.due("nextHop(0, 0) does not change", x.nextHop(0, 0), 0);
        x.reconnect(0);
        Checks.due("staleTimer(0)", x.staleTimer(0), 20);
        x.addPeer(true);
        Checks.due("disconnect(0), up while deferring", x.disconnect(0), 0);
        Checks.due("staleTimer(0)", x.staleTimer(0), 0);
        Checks.due("nextHop(0, 0) over a peer that is down", x.nextHop(0, 0), 0);
        Checks.due("isEntryStale(0, 0)", x.isEntryStale(0, 0), 1);
    }

    private static void disconnectEndsDeferral() {
        GracefulRestart x = Checks.withPeers("ggn");
        x.announce(2, 0, 0, 3);
        x.restart(true);
        x.reconnect(2);
        x.disconnect(0);
        Checks.due("isDeferring()", x.isDeferring(), 1);
        Checks.due("disconnect(1)", x.disconnect(1), 1);
        Checks.due("isDeferring()", x.isDeferring(), 0);
        Checks.due("deferralTimer()", x.deferralTimer(), 0);
        Checks.due("isEntryStale(0, 0)", x.isEntryStale(0, 0), 0);
        GracefulRestart y = Checks.withPeers("g");
        y.announce(0, 0, 0, 3);
        y.restart(true);
        y.reconnect(0);
        Checks.due("disconnect(0), the last one up", y.disconnect(0), 0);
        Checks.due("isDeferring()", y.isDeferring(), 0);
        Checks.due("nextHop(0, 0)", y.nextHop(0, 0), -6);
    }

    private static void disconnectErrors() {
        GracefulRestart x = Checks.withPeers("gg");
        x.announce(1, 0, 0, 3);
        x.disconnect(0);
        String before = Checks.snapshot(x);
        Checks.due("disconnect(0), down", x.disconnect(0), -4);
        Checks.due("disconnect(2)", x.disconnect(2), -1);
        Checks.due("disconnect(-1)", x.disconnect(-1), -1);
        Checks.due("disconnect(MIN)", x.disconnect(Integer.MIN_VALUE), -1);
        Checks.holds("disconnect's errors change nothing", before.equals(Checks.snapshot(x)));
    }

    private static void endOfTableAnswers() {
        GracefulRestart x = Checks.withPeers("gn");
        Checks.due("endOfTable(0, 0)", x.endOfTable(0, 0), 1);
        Checks.due("endOfTable(0, 0)", x.endOfTable(0, 0), 0);
        Checks.due("endOfTable(0, 1)", x.endOfTable(0, 1), 1);
        Checks.due("endOfTable(0, 1)", x.endOfTable(0, 1), 0);
        Checks.due("endOfTable(1, 1)", x.endOfTable(1, 1), 1);
        Checks.due("endOfTable(1, 1)", x.endOfTable(1, 1), 0);
        x.restart(true);
        x.reconnect(0);
        Checks.due("endOfTable(0, 1)", x.endOfTable(0, 1), 1);
        Checks.due("one table is not enough", x.isDeferring(), 1);
        Checks.due("endOfTable(0, 1)", x.endOfTable(0, 1), 0);
        Checks.due("nor is one table twice", x.isDeferring(), 1);
        Checks.due("endOfTable(0, 0)", x.endOfTable(0, 0), 1);
        Checks.due("isDeferring()", x.isDeferring(), 0);
        Checks.due("endOfTable(0, 0) after deferral", x.endOfTable(0, 0), 0);
    }

    private static void marksOutliveTheSession() {
        GracefulRestart x = Checks.withPeers("gg");
        x.restart(true);
        x.reconnect(0);
        Checks.markBoth(x, 0);
        x.disconnect(0);
        Checks.due("waitingPeers()", x.waitingPeers(), 2);
        x.reconnect(0);
        Checks.due("waitingPeers(), the marks stay", x.waitingPeers(), 2);
        Checks.due("endOfTable(0, 0)", x.endOfTable(0, 0), 0);
    }

    private static void marksOfOthersHaveNoEffect() {
        GracefulRestart x = Checks.withPeers("ng");
        x.restart(true);
        x.reconnect(0);
        Checks.due("endOfTable(0, 0)", x.endOfTable(0, 0), 1);
        Checks.due("endOfTable(0, 1)", x.endOfTable(0, 1), 1);
        Checks.due("waitingPeers()", x.waitingPeers(), 2);
        x.reconnect(1);
        Checks.markBoth(x, 1);
        Checks.due("isDeferring()", x.isDeferring(), 0);
    }

    private static void endOfTableErrors() {
        GracefulRestart x = Checks.withPeers("ggn");
        x.restart(true);
        x.reconnect(0);
        String before = Checks.snapshot(x);
        Checks.due("endOfTable(3, 9)", x.endOfTable(3, 9), -1);
        Checks.due("endOfTable(-1, 0)", x.endOfTable(-1, 0), -1);
        Checks.due("endOfTable(1, 2)", x.endOfTable(1, 2), -2);
        Checks.due("endOfTable(0, -1)", x.endOfTable(0, -1), -2);
        Checks.due("endOfTable(0, 32)", x.endOfTable(0, 32), -2);
        Checks.due("endOfTable(1, 0), helping", x.endOfTable(1, 0), -4);
        Checks.due("endOfTable(2, 0), down", x.endOfTable(2, 0), -4);
        Checks.holds("endOfTable's errors change nothing", before.equals(Checks.snapshot(x)));
        x.reconnect(1);
        Checks.due("endOfTable(1, 0) is new", x.endOfTable(1, 0), 1);
    }

    private static void endOfDeferralCleansUp() {
        GracefulRestart x = Checks.withPeers("ggn");
        x.announce(0, 0, 0, 3);
        x.announce(0, 0, 1, 3);
        x.announce(2, 0, 2, 3);
        x.restart(true);
        x.reconnect(0);
        x.reconnect(1);
        x.withdraw(0, 0, 1);
        x.announce(1, 0, 0, 2);
        Checks.markBoth(x, 0);
        Checks.due("isLearnedStale(1, 0, 0)", x.isLearnedStale(1, 0, 0), 1);
        Checks.markBoth(x, 1);
        Checks.due("isDeferring()", x.isDeferring(), 0);
        Checks.due("nextHop(0, 0), replaced", x.nextHop(0, 0), 1);
        Checks.due("isEntryStale(0, 0)", x.isEntryStale(0, 0), 0);
        Checks.due("nextHop(0, 1), removed", x.nextHop(0, 1), -6);
        Checks.due("nextHop(0, 2), removed", x.nextHop(0, 2), -6);
        Checks.due("learnedLength(1, 0, 0), the next hop", x.learnedLength(1, 0, 0), -6);
        Checks.due("learnedLength(1, 0, 1)", x.learnedLength(1, 0, 1), -6);
        Checks.due("learnedLength(0, 0, 0)", x.learnedLength(0, 0, 0), 3);
        Checks.due("staleTimer(0)", x.staleTimer(0), 0);
        Checks.due("staleTimer(1)", x.staleTimer(1), 0);
        Checks.due("deferralTimer()", x.deferralTimer(), 0);
    }
}
