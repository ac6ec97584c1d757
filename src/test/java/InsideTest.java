/**
 * Two sentences that no answer shows after any run of calls, because what they speak of is never come to: they stand as
 * they are written all the same. The state that shows them is set inside the object.
 */
public final class InsideTest {
    /** Two helpers of which one is back, a third that has marked one table, and one that is not graceful and down. */
    private static final String DEFERRING = "addPeer(true); addPeer(true); addPeer(true); addPeer(false); addPeer(false);"
        + "announce(0, 0, 0, 4); restart(true) = 5; reconnect(1); reconnect(2); endOfTable(2, 0) = 1; reconnect(4);"
        + "isDeferring() = 1; isEntryStale(0, 0) = 1; waitingPeers() = 7";
    /** Peer 0 did not come back, so nothing is known of its offer when deferral ends. */
    private static final String ENDED = "isDeferring() = 0; deferralTimer() = 0; waitingPeers() = 0; nextHop(0, 0) = -6";

    public static void main(String[] args) throws Exception {
        staleStaysAtTheNextHop();
        staleStaysWithoutAnOffer();
        freshIsRemoved();
        staleIsReplaced();
        timerIsCheckedAfterEveryEvent();
        waitingIsCheckedAfterEveryEvent();
        Checks.finish();
    }

    private static void staleStaysAtTheNextHop() throws ReflectiveOperationException {
        GracefulRestart x = Script.play("If the peer is the next hop .. a learned route of that peer that is fresh is"
            + " removed, but one that is stale stays", "addPeer(true); addPeer(true); announce(1, 0, 0, 4);"
            + "announce(1, 1, 7, 4); isLearnedStale(0, 0, 0) = 0");
        Inside.makeLearnedStale(x, 0, 0);
        Script.go(x, "announce(0, 0, 0, 3) = 0; announce(0, 1, 7, 3) = 0; nextHop(0, 0) = 0; nextHop(1, 7) = 0;"
            + "learnedLength(0, 0, 0) = 5; isLearnedStale(0, 0, 0) = 1; learnedLength(0, 1, 7) = -6;"
            + "isLearnedStale(0, 1, 7) = -6");
        // Here LOOPED comes to be, as a packet that a peer sends by a stale route.
        Script.go(x, "forward(0, 0, 0) = -8; forward(0, 1, 7) = -6; forward(1, 0, 0) = 0; loopCount() = 1;"
            + "reachableCount(0) = 0; reachableCount(1) = 2");
    }

    private static void staleStaysWithoutAnOffer() throws ReflectiveOperationException {
        GracefulRestart x = Script.play("if there is no known offer .. one that is stale stays",
            "addPeer(true); addPeer(false); addPeer(true); announce(1, 1, 7, 4); learnedLength(2, 1, 7) = 5");
        Inside.makeLearnedStale(x, 0, 15);
        Script.go(x, "withdraw(1, 1, 7) = 4; nextHop(1, 7) = -6; learnedLength(0, 1, 7) = 5; isLearnedStale(0, 1, 7) = 1;"
            + "learnedLength(2, 1, 7) = -6; forward(0, 1, 7) = -7; loopCount() = 0; disconnect(0) = 1");
    }

    private static void freshIsRemoved() {
        Script.play("a learned route of that peer that is fresh is removed", "addPeer(true); addPeer(true);"
            + "announce(1, 0, 0, 4); learnedLength(0, 0, 0) = 5; announce(0, 0, 0, 3); learnedLength(0, 0, 0) = -6;"
            + "withdraw(0, 0, 0); withdraw(1, 0, 0); learnedLength(0, 0, 0) = -6; learnedLength(1, 0, 0) = -6");
    }

    private static void staleIsReplaced() throws ReflectiveOperationException {
        GracefulRestart x = Script.play("a peer that is not the next hop learns the route .. and the learned route is"
            + " fresh", "addPeer(true); addPeer(true); announce(1, 0, 0, 4)");
        Inside.makeLearnedStale(x, 0, 0);
        Script.go(x, "isLearnedStale(0, 0, 0) = 1; announce(1, 0, 0, 9) = 4; learnedLength(0, 0, 0) = 10;"
            + "isLearnedStale(0, 0, 0) = 0");
    }

    private static void timerIsCheckedAfterEveryEvent() throws ReflectiveOperationException {
        String[] events = {
            "reconnect(0) = 1; nextHop(0, 0) = 0; isEntryStale(0, 0) = 0; isDeferring() = 0; deferralTimer() = 0",
            "reconnect(3) = 0; " + ENDED, "disconnect(0) = 0; " + ENDED, "disconnect(1) = 1; " + ENDED,
            "disconnect(4) = 0; " + ENDED, "endOfTable(1, 0) = 1; " + ENDED, "endOfTable(2, 0) = 0; " + ENDED,
            "endOfTable(2, 1) = 1; " + ENDED, "endOfTable(4, 0) = 1; " + ENDED, "tick(1) = 0; " + ENDED
        };
        for (String event : events) {
            GracefulRestart x = Script.play("when the deferral timer reaches 0. This is checked after every restart,"
                + " reconnection, loss of a session, end-of-table mark and tick.", DEFERRING);
            Inside.emptyDeferralTimer(x);
            Script.go(x, event);
        }
    }

    private static void waitingIsCheckedAfterEveryEvent() throws ReflectiveOperationException {
        String[] events = {
            "reconnect(3) = 0; " + ENDED, "disconnect(4) = 0; " + ENDED, "endOfTable(2, 0) = 0; " + ENDED,
            "endOfTable(4, 1) = 1; " + ENDED, "tick(1) = 0; " + ENDED
        };
        for (String event : events) {
            GracefulRestart x = Script.play("Deferral ends as soon as the router waits for no peer .. This is checked"
                + " after every restart, reconnection, loss of a session, end-of-table mark and tick.", DEFERRING);
            for (int peer = 0; peer < 3; peer++) {
                Inside.markBoth(x, peer);
            }
            Script.go(x, "isDeferring() = 1; waitingPeers() = 0; " + event);
        }
    }
}
