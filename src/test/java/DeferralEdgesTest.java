/** The edges of restart, reconnection, loss of a session, marks and the end of deferral. */
public final class DeferralEdgesTest {
    public static void main(String[] args) {
        restartOfEachState();
        restartTwice();
        restartThatEndsAtOnce();
        restartErasesEveryMark();
        freshRoutesBecomeStale();
        reconnectInEachState();
        reconnectWhileDeferring();
        reconnectWhileRunning();
        reconnectDoesNotEndDeferral();
        disconnectInEachState();
        disconnectIsNotGraceful();
        disconnectOfTheLastAwaited();
        disconnectWhileRunning();
        marksOfBothTables();
        marksWhileRunning();
        marksOfOthers();
        waitsForUpAndHelping();
        endOfDeferralReplacesOrRemoves();
        endOfDeferralLeavesHelpersAlone();
        nothingEndsTwice();
        Checks.finish();
    }

    private static void restartOfEachState() {
        Script.play("Returns the number of sessions that were lost.", "addPeer(true); addPeer(false); addPeer(true);"
            + "disconnect(2); restart(true) = 2; sessionState(0) = 1; sessionState(1) = 2; sessionState(2) = 2;"
            + "restart(true) = 0; reconnect(1); restart(true) = 1; sessionState(1) = 2; reconnect(0); reconnect(1);"
            + "reconnect(2); restart(false) = 3");
        Script.play("Peers that are HELPING or DOWN are not affected.", "addPeer(true); addPeer(true); addPeer(true);"
            + "announce(2, 0, 0, 5); disconnect(1); restart(true); tick(3); reconnect(2); setRestartTime(30);"
            + "restart(true) = 1; sessionState(0) = 1; restartTimer(0) = 7; isLearnedStale(0, 0, 0) = 1;"
            + "learnedLength(0, 0, 0) = 6; sessionState(1) = 2; restartTimer(1) = 0; restartTimer(2) = 30");
    }

    private static void restartTwice() {
        Script.play("its learned routes that are already stale are removed", "addPeer(true); addPeer(true);"
            + "announce(0, 0, 0, 5); announce(0, 1, 7, 5); restart(true) = 2; reconnect(1); isLearnedStale(1, 1, 7) = 1;"
            + "restart(true) = 1; learnedLength(1, 0, 0) = -6; learnedLength(1, 1, 7) = -6; isLearnedStale(1, 0, 0) = -6;"
            + "sessionState(1) = 1; disconnect(1) = 0");
        Script.play("all entries stay and become stale", "addPeer(true); announce(0, 0, 0, 5); restart(true);"
            + "isEntryStale(0, 0) = 1; restart(true); nextHop(0, 0) = 0; isEntryStale(0, 0) = 1; restart(false);"
            + "nextHop(0, 0) = -6; isEntryStale(0, 0) = -6; restart(true); nextHop(0, 0) = -6");
    }

    private static void restartThatEndsAtOnce() {
        String words = "This is checked after every restart";
        Script.play(words, "addPeer(false); addPeer(false); announce(0, 0, 0, 5); restart(true) = 2; isDeferring() = 0;"
            + "deferralTimer() = 0; nextHop(0, 0) = -6; isEntryStale(0, 0) = -6; sessionState(0) = 2; reconnect(0) = 1;"
            + "nextHop(0, 0) = 0");
        Script.play(words, "addPeer(true); announce(0, 0, 0, 5); disconnect(0); restart(true) = 0; isDeferring() = 0;"
            + "deferralTimer() = 0; nextHop(0, 0) = -6");
        Script.play(words, "restart(true) = 0; isDeferring() = 0; restart(false) = 0; isDeferring() = 0");
        // A helper that is left from the last restart is waited for, though no session is lost.
        Script.play(words, "addPeer(true); setRestartTime(50); setDeferralTime(1); restart(true); tick(1); isDeferring() = 0;"
            + "restart(true) = 0; isDeferring() = 1; waitingPeers() = 1; deferralTimer() = 1; restartTimer(0) = 49");
    }

    private static void restartErasesEveryMark() {
        Script.play("all end-of-table marks are erased", "addPeer(true); addPeer(true); addPeer(false); addPeer(true);"
            + "endOfTable(0, 0); endOfTable(0, 1); endOfTable(1, 0); endOfTable(1, 1); endOfTable(2, 0); endOfTable(3, 1);"
            + "disconnect(1); restart(true); waitingPeers() = 9; reconnect(1); waitingPeers() = 11;"
            + "endOfTable(1, 0) = 1; reconnect(0); endOfTable(0, 0) = 1; endOfTable(0, 0) = 0; reconnect(2);"
            + "endOfTable(2, 0) = 1; reconnect(3); endOfTable(3, 1) = 1; endOfTable(3, 0) = 1; waitingPeers() = 3");
        Script.play("all end-of-table marks are erased", "addPeer(true); addPeer(true); restart(true); reconnect(0);"
            + "endOfTable(0, 0); endOfTable(0, 1); waitingPeers() = 2; restart(true); waitingPeers() = 3; reconnect(0);"
            + "endOfTable(0, 0) = 1; endOfTable(0, 1) = 1");
    }

    private static void freshRoutesBecomeStale() {
        Script.play("those that are fresh become stale, its stale timer stops", "addPeer(true); addPeer(true);"
            + "announce(0, 0, 0, 20); announce(1, 1, 7, 1); isLearnedStale(1, 0, 0) = 0; isLearnedStale(0, 1, 7) = 0;"
            + "restart(false); isLearnedStale(1, 0, 0) = 1; isLearnedStale(0, 1, 7) = 1; learnedLength(1, 0, 0) = 21;"
            + "learnedLength(0, 1, 7) = 2; isLearnedStale(0, 0, 0) = -6; staleTimer(0) = 0; staleTimer(1) = 0");
        Script.play("If the peer is not graceful, it becomes DOWN and its learned routes are removed.",
            "addPeer(true); addPeer(false); announce(0, 0, 0, 20); learnedLength(1, 0, 0) = 21; restart(true);"
            + "sessionState(1) = 2; learnedLength(1, 0, 0) = -6; isLearnedStale(1, 0, 0) = -6; restartTimer(1) = 0;"
            + "disconnect(1) = -4; reconnect(1) = 0; learnedLength(1, 0, 0) = -6");
    }

    private static void reconnectInEachState() {
        Script.play("WRONG_STATE if the session is UP", "addPeer(true); addPeer(false); reconnect(0) = -4;"
            + "reconnect(1) = -4; restart(true); reconnect(0) = 0; reconnect(0) = -4; reconnect(1) = 0; reconnect(1) = -4;"
            + "disconnect(0); reconnect(0) = 0; reconnect(0) = -4");
    }

    private static void reconnectWhileDeferring() {
        Script.play("If the peer was HELPING, its restart timer stops and its stale timer starts with the stale time.",
            "addPeer(true); addPeer(true); announce(0, 0, 0, 5); restart(true); tick(9); restartTimer(1) = 1;"
            + "reconnect(1) = 0; sessionState(1) = 0; restartTimer(1) = 0; staleTimer(1) = 20; isLearnedStale(1, 0, 0) = 1;"
            + "learnedLength(1, 0, 0) = 6; isEntryStale(0, 0) = 1; tick(1); sessionState(1) = 0; sessionState(0) = 2;"
            + "staleTimer(1) = 19; reconnect(0) = 1; staleTimer(0) = 0; restartTimer(0) = 0; isDeferring() = 1;"
            + "waitingPeers() = 3");
    }

    private static void reconnectWhileRunning() {
        Script.play("If the router is running, it selects all routes, and then the peer removes its learned routes that are"
            + " still stale", "addPeer(true); addPeer(true); addPeer(true); announce(0, 0, 0, 5); announce(0, 0, 1, 5);"
            + "announce(0, 0, 2, 5); setRestartTime(50); setDeferralTime(1); restart(true); reconnect(0); tick(1);"
            + "withdraw(0, 0, 1); announce(1, 0, 2, 1); isLearnedStale(1, 0, 1) = 1; isLearnedStale(1, 0, 2) = 1;"
            + "reconnect(1) = 1; isLearnedStale(1, 0, 0) = 0; learnedLength(1, 0, 0) = 6; learnedLength(1, 0, 1) = -6;"
            + "learnedLength(1, 0, 2) = -6; nextHop(0, 2) = 1; staleTimer(1) = 0; loopCount() = 0;"
            + "isLearnedStale(2, 0, 1) = 1; forward(2, 0, 1) = -7; forward(2, 0, 2) = 1; restartTimer(2) = 49");
    }

    private static void reconnectDoesNotEndDeferral() {
        Script.play("This is checked after every restart, reconnection", "addPeer(true); addPeer(true); restart(true);"
            + "reconnect(0); endOfTable(0, 0); endOfTable(0, 1); disconnect(0); isDeferring() = 1; reconnect(0);"
            + "isDeferring() = 1; waitingPeers() = 2; reconnect(1); isDeferring() = 1; waitingPeers() = 2");
    }

    private static void disconnectInEachState() {
        Script.play("WRONG_STATE if the session is DOWN", "addPeer(true); addPeer(false); disconnect(0) = 0;"
            + "disconnect(0) = -4; disconnect(1) = 0; disconnect(1) = -4; reconnect(0); restart(true); sessionState(0) = 1;"
            + "disconnect(0) = 0; sessionState(0) = 2; disconnect(0) = -4");
        Script.play("WRONG_STATE if the session is DOWN", "addPeer(true); restart(true); tick(10); sessionState(0) = 2;"
            + "disconnect(0) = -4");
    }

    private static void disconnectIsNotGraceful() {
        Script.play("Ends the session of a peer for good, without graceful restart", "addPeer(true); addPeer(true);"
            + "announce(0, 0, 0, 5); sessionState(1) = 0; disconnect(1) = 1; sessionState(1) = 2; restartTimer(1) = 0;"
            + "staleTimer(1) = 0; learnedLength(1, 0, 0) = -6; isDeferring() = 0; tick(100) = 0; reconnect(1) = 0;"
            + "staleTimer(1) = 0; learnedLength(1, 0, 0) = 6; isLearnedStale(1, 0, 0) = 0");
    }

    private static void disconnectOfTheLastAwaited() {
        String words = "Deferral ends as soon as the router waits for no peer";
        // The last one is HELPING, UP without marks, and UP with one mark.
        Script.play(words, "addPeer(true); addPeer(false); announce(1, 0, 0, 5); restart(true); reconnect(1);"
            + "disconnect(0) = 1; isDeferring() = 0; deferralTimer() = 0; isEntryStale(0, 0) = 0; nextHop(0, 0) = 1");
        Script.play(words, "addPeer(true); announce(0, 0, 0, 5); restart(true); reconnect(0); disconnect(0) = 0;"
            + "isDeferring() = 0; nextHop(0, 0) = -6");
        Script.play(words, "addPeer(true); addPeer(true); restart(true); reconnect(0); endOfTable(0, 1); reconnect(1);"
            + "endOfTable(1, 0); endOfTable(1, 1); isDeferring() = 1; disconnect(0); isDeferring() = 0");
        Script.play(words, "addPeer(true); addPeer(true); restart(true); disconnect(1); isDeferring() = 1;"
            + "waitingPeers() = 1; disconnect(0); isDeferring() = 0; waitingPeers() = 0");
        // Others that leave do not end it.
        Script.play(words, "addPeer(true); addPeer(true); addPeer(false); restart(true); reconnect(2); disconnect(2);"
            + "isDeferring() = 1; reconnect(1); endOfTable(1, 0); endOfTable(1, 1); disconnect(1); isDeferring() = 1;"
            + "waitingPeers() = 1");
    }

    private static void disconnectWhileRunning() {
        Script.play("If the peer was UP, the router does not know its offers any more.", "addPeer(true); addPeer(true);"
            + "addPeer(true); announce(0, 0, 0, 5); announce(1, 0, 0, 6); announce(0, 1, 7, 6); disconnect(0) = 0;"
            + "nextHop(0, 0) = 1; nextHop(1, 7) = -6; learnedLength(2, 0, 0) = 7; learnedLength(1, 0, 0) = -6;"
            + "learnedLength(2, 1, 7) = -6; disconnect(2) = 1; disconnect(1) = 0; nextHop(0, 0) = -6");
        // A helper that is left while the router runs: its routes go, and nothing else changes.
        Script.play("the peer becomes DOWN, its learned routes are removed, and its timers stop", "addPeer(true);"
            + "addPeer(true); addPeer(true); announce(0, 0, 0, 5); announce(1, 0, 1, 5); setRestartTime(50);"
            + "setDeferralTime(1); restart(true); reconnect(0); tick(1); isDeferring() = 0; disconnect(1) = 1;"
            + "sessionState(1) = 2; restartTimer(1) = 0; learnedLength(1, 0, 0) = -6; nextHop(0, 0) = 0;"
            + "nextHop(0, 1) = -6; isLearnedStale(2, 0, 1) = 1; restartTimer(2) = 49; disconnect(2) = 2");
    }

    private static void marksOfBothTables() {
        String words = "has not marked the end of both tables";
        for (int first = 0; first < 2; first++) {
            Script.play(words, "addPeer(true); restart(true); reconnect(0); endOfTable(0, " + first + ") = 1;"
                + "waitingPeers() = 1; isDeferring() = 1; endOfTable(0, " + first + ") = 0; waitingPeers() = 1;"
                + "isDeferring() = 1; endOfTable(0, " + (1 - first) + ") = 1; waitingPeers() = 0; isDeferring() = 0;"
                + "endOfTable(0, 0) = 0; endOfTable(0, 1) = 0");
        }
        Script.play(words, "addPeer(true); addPeer(true); restart(true); reconnect(0); reconnect(1); endOfTable(0, 0);"
            + "endOfTable(1, 1); waitingPeers() = 3; isDeferring() = 1; endOfTable(1, 0); waitingPeers() = 1;"
            + "isDeferring() = 1; endOfTable(0, 1); isDeferring() = 0");
    }

    private static void marksWhileRunning() {
        Script.play("A mark stays until the next restart.", "addPeer(true); endOfTable(0, 0) = 1; tick(100);"
            + "endOfTable(0, 0) = 0; disconnect(0); endOfTable(0, 0) = -4; reconnect(0); endOfTable(0, 0) = 0;"
            + "endOfTable(0, 1) = 1; restart(true); waitingPeers() = 1; endOfTable(0, 0) = -4; reconnect(0);"
            + "waitingPeers() = 1; endOfTable(0, 0) = 1; endOfTable(0, 1) = 1; isDeferring() = 0");
        Script.play("A mark stays until the next restart.", "addPeer(true); addPeer(true); restart(true); reconnect(0);"
            + "endOfTable(0, 0); endOfTable(0, 1); disconnect(0); reconnect(0); waitingPeers() = 2; endOfTable(0, 1) = 0");
    }

    private static void marksOfOthers() {
        Script.play("The marks of a peer that is not graceful have no effect.", "addPeer(false); addPeer(true);"
            + "restart(true); reconnect(0); waitingPeers() = 2; endOfTable(0, 0) = 1; endOfTable(0, 0) = 0;"
            + "endOfTable(0, 1) = 1; waitingPeers() = 2; isDeferring() = 1; reconnect(1); endOfTable(1, 0);"
            + "endOfTable(1, 1); isDeferring() = 0");
        Script.play("The marks of a peer that is not graceful have no effect.", "addPeer(false); addPeer(true);"
            + "restart(true); reconnect(0); reconnect(1); endOfTable(1, 0); endOfTable(1, 1); isDeferring() = 0");
    }

    private static void waitsForUpAndHelping() {
        Script.play("it waits for each graceful peer that is UP or HELPING", "addPeer(true); addPeer(true); addPeer(true);"
            + "addPeer(false); addPeer(false); disconnect(2); disconnect(4); restart(true); waitingPeers() = 3;"
            + "reconnect(0); waitingPeers() = 3; reconnect(2); waitingPeers() = 7; reconnect(3); reconnect(4);"
            + "waitingPeers() = 7; disconnect(0); waitingPeers() = 6; tick(10); sessionState(1) = 2; waitingPeers() = 4;"
            + "reconnect(1); waitingPeers() = 6");
    }

    private static void endOfDeferralReplacesOrRemoves() {
        Script.play("so stale entries of its forwarding table are replaced or removed", "addPeer(true); addPeer(true);"
            + "addPeer(false); announce(0, 0, 0, 5); announce(0, 0, 1, 5); announce(0, 0, 2, 5); announce(2, 0, 3, 5);"
            + "restart(true); reconnect(0); reconnect(1); withdraw(0, 0, 1); announce(1, 0, 2, 4); announce(1, 1, 7, 20);"
            + "tick(15); isDeferring() = 0; nextHop(0, 0) = 0; isEntryStale(0, 0) = 0; nextHop(0, 1) = -6;"
            + "nextHop(0, 2) = 1; isEntryStale(0, 2) = 0; nextHop(0, 3) = -6; nextHop(1, 7) = 1; isEntryStale(1, 7) = 0;"
            + "learnedLength(1, 0, 0) = 6; isLearnedStale(1, 0, 0) = 0; learnedLength(1, 0, 1) = -6;"
            + "learnedLength(1, 0, 2) = -6; learnedLength(0, 0, 2) = 5; learnedLength(1, 0, 3) = -6;"
            + "learnedLength(0, 1, 7) = 21; loopCount() = 0");
    }

    private static void endOfDeferralLeavesHelpersAlone() {
        Script.play("Then every peer that is UP removes its learned routes that are still stale", "addPeer(true);"
            + "addPeer(true); addPeer(true); announce(0, 0, 0, 5); announce(2, 0, 1, 5); setRestartTime(50);"
            + "setDeferralTime(3); restart(true); reconnect(0); tick(3); isDeferring() = 0; sessionState(1) = 1;"
            + "isLearnedStale(1, 0, 0) = 1; isLearnedStale(1, 0, 1) = 1; learnedLength(0, 0, 1) = -6; nextHop(0, 1) = -6;"
            + "restartTimer(1) = 47; forward(1, 0, 0) = 0; forward(1, 0, 1) = -7; reachableCount(1) = 1; staleTimer(0) = 0");
    }

    private static void nothingEndsTwice() {
        Script.play("When deferral ends, the router is running", "addPeer(true); addPeer(true); announce(0, 0, 0, 5);"
            + "restart(true); disconnect(1); reconnect(0); endOfTable(0, 0); endOfTable(0, 1); isDeferring() = 0; tick(100);"
            + "isDeferring() = 0; reconnect(1); waitingPeers() = 0; isDeferring() = 0; deferralTimer() = 0;"
            + "learnedLength(1, 0, 0) = 6; announce(0, 0, 0, 4); learnedLength(1, 0, 0) = 5");
    }
}
