/** The edges of offers and selection: ties, the shortest and the longest path, the first and the last offer. */
public final class SelectionEdgesTest {
    public static void main(String[] args) {
        tiesOfEveryPair();
        tiesOfAll();
        oneStepShorter();
        plusOne();
        changesOfTheNextHop();
        sameOfferAgain();
        pairsAreSeparate();
        offersInEveryState();
        offersOutliveSessions();
        offersOutliveTheRestartTimer();
        onlyOffersOfPeersThatAreUp();
        noSelectionWhileDeferring();
        newPeerWhileRunning();
        newPeerWhileDeferring();
        packetsWhateverTheSessions();
        everyAnswerOfForward();
        Checks.finish();
    }

    private static void tiesOfEveryPair() {
        Checks.sentence("of several shortest ones it takes the one of the peer with the lowest number");
        for (int low = 0; low < 5; low++) {
            for (int high = low + 1; high < 5; high++) {
                for (int length : new int[] {1, 20}) {
                    tie(low, high, length, low, high);
                    tie(high, low, length, low, high);
                }
            }
        }
    }

    private static void tie(int first, int second, int length, int low, int high) {
        GracefulRestart x = Checks.withPeers("ggggg");
        x.announce(first, 1, 3, length);
        Checks.due("nextHop, one offer", x.nextHop(1, 3), first);
        x.announce(second, 1, 3, length);
        Checks.due("nextHop, " + low + " and " + high, x.nextHop(1, 3), low);
        Checks.due("the next hop learns nothing", x.learnedLength(low, 1, 3), -6);
        Checks.due("the other one learns", x.learnedLength(high, 1, 3), length + 1);
        x.withdraw(low, 1, 3);
        Checks.due("nextHop, the other one is left", x.nextHop(1, 3), high);
    }

    private static void tiesOfAll() {
        Checks.sentence("of several shortest ones it takes the one of the peer with the lowest number");
        GracefulRestart x = Checks.withPeers("nnnnn");
        for (int peer = 4; peer >= 0; peer--) {
            x.announce(peer, 0, 7, 6);
            Checks.due("nextHop(0, 7)", x.nextHop(0, 7), peer);
        }
        for (int peer = 0; peer < 5; peer++) {
            Checks.due("nextHop(0, 7)", x.nextHop(0, 7), peer);
            x.disconnect(peer);
        }
        Checks.due("nextHop(0, 7)", x.nextHop(0, 7), -6);
        for (int peer = 4; peer >= 0; peer--) {
            x.reconnect(peer);
            Checks.due("nextHop(0, 7)", x.nextHop(0, 7), peer);
        }
    }

    private static void oneStepShorter() {
        Checks.sentence("among the known offers the router takes the one with the shortest path");
        for (int length = 2; length <= 20; length++) {
            GracefulRestart x = Checks.withPeers("ggggg");
            x.announce(0, 0, 0, length);
            x.announce(4, 0, 0, length - 1);
            Checks.due("nextHop, " + length + " and " + (length - 1), x.nextHop(0, 0), 4);
            x.announce(2, 0, 0, length);
            Checks.due("nextHop, a longer one more", x.nextHop(0, 0), 4);
            x.announce(4, 0, 0, length);
            Checks.due("nextHop, all equal", x.nextHop(0, 0), 0);
        }
        Script.play("among the known offers the router takes the one with the shortest path",
            "addPeer(true); addPeer(true); announce(0, 0, 0, 20); announce(1, 0, 0, 1); nextHop(0, 0) = 1;"
            + "announce(1, 0, 0, 20); nextHop(0, 0) = 0; announce(0, 0, 0, 1); nextHop(0, 0) = 0");
    }

    private static void plusOne() {
        Checks.sentence("learns the route with the path length of the selected offer plus 1");
        for (int length = 1; length <= 20; length++) {
            GracefulRestart x = Checks.withPeers("gng");
            x.announce(1, 1, 0, length);
            Checks.due("learnedLength(0, 1, 0)", x.learnedLength(0, 1, 0), length + 1);
            Checks.due("learnedLength(2, 1, 0)", x.learnedLength(2, 1, 0), length + 1);
            Checks.due("isLearnedStale(2, 1, 0)", x.isLearnedStale(2, 1, 0), 0);
            Checks.due("learnedLength(1, 1, 0)", x.learnedLength(1, 1, 0), -6);
        }
    }

    private static void changesOfTheNextHop() {
        Script.play("If the peer is the next hop .. a learned route of that peer that is fresh is removed",
            "addPeer(true); addPeer(true); addPeer(true); announce(0, 0, 0, 5); learnedLength(1, 0, 0) = 6;"
            + "announce(1, 0, 0, 4); learnedLength(1, 0, 0) = -6; learnedLength(0, 0, 0) = 5; learnedLength(2, 0, 0) = 5;"
            + "withdraw(1, 0, 0); learnedLength(1, 0, 0) = 6; learnedLength(0, 0, 0) = -6; learnedLength(2, 0, 0) = 6");
        Script.play("or if there is no known offer .. a learned route of that peer that is fresh is removed",
            "addPeer(true); addPeer(true); announce(0, 0, 0, 5); withdraw(0, 0, 0); learnedLength(1, 0, 0) = -6;"
            + "isLearnedStale(1, 0, 0) = -6; nextHop(0, 0) = -6; forward(1, 0, 0) = -6; announce(0, 0, 0, 2);"
            + "disconnect(0) = 0; learnedLength(1, 0, 0) = -6; nextHop(0, 0) = -6");
    }

    private static void sameOfferAgain() {
        Script.play("an earlier offer of the peer for the same table and prefix is replaced",
            "addPeer(true); addPeer(true); announce(0, 0, 0, 5) = 0; announce(0, 0, 0, 5) = 5; announce(0, 0, 0, 5) = 5;"
            + "learnedLength(1, 0, 0) = 6; withdraw(0, 0, 0) = 5; withdraw(0, 0, 0) = -6; announce(0, 0, 0, 5) = 0;"
            + "announce(0, 0, 0, 20) = 5; learnedLength(1, 0, 0) = 21; announce(0, 0, 0, 1) = 20;"
            + "learnedLength(1, 0, 0) = 2");
    }

    private static void pairsAreSeparate() {
        Checks.sentence("Every rule below holds for each pair of a table and a prefix separately.");
        for (int one = 0; one < 16; one++) {
            GracefulRestart x = Checks.withPeers("ggn");
            x.announce(2, one / 8, one % 8, 9);
            x.restart(true);
            for (int other = 0; other < 16; other++) {
                Checks.due("nextHop", x.nextHop(other / 8, other % 8), one == other ? 2 : -6);
                Checks.due("isEntryStale", x.isEntryStale(other / 8, other % 8), one == other ? 1 : -6);
                Checks.due("learnedLength", x.learnedLength(1, other / 8, other % 8), one == other ? 10 : -6);
                Checks.due("isLearnedStale", x.isLearnedStale(1, other / 8, other % 8), one == other ? 1 : -6);
                Checks.due("forward", x.forward(0, other / 8, other % 8), one == other ? 2 : -6);
                Checks.due("withdraw", x.withdraw(2, other / 8, other % 8), one == other ? 9 : -6);
            }
            Checks.due("reachableCount(0)", x.reachableCount(0), 1);
        }
    }

    private static void offersInEveryState() {
        Script.play("A peer can do this in any session state, but the router knows the offer only while the session is UP.",
            "addPeer(true); addPeer(true); announce(0, 0, 0, 5) = 0; nextHop(0, 0) = 0; setDeferralTime(1); restart(true);"
            + "sessionState(0) = 1; announce(0, 0, 0, 6) = 5; announce(0, 0, 1, 7) = 0; tick(1); isDeferring() = 0;"
            + "sessionState(0) = 1; nextHop(0, 0) = -6; announce(0, 0, 0, 8) = 6; nextHop(0, 0) = -6; disconnect(0);"
            + "sessionState(0) = 2; announce(0, 0, 0, 9) = 8; announce(0, 0, 2, 1) = 0; nextHop(0, 0) = -6;"
            + "withdraw(0, 0, 2) = 1; reconnect(0) = 2; nextHop(0, 0) = 0; nextHop(0, 1) = 0; nextHop(0, 2) = -6;"
            + "reconnect(1) = 0; learnedLength(1, 0, 0) = 10; learnedLength(1, 0, 1) = 8");
    }

    private static void offersOutliveSessions() {
        String words = "it stays through any loss of the session until the peer withdraws or replaces it";
        Script.play(words, "addPeer(true); announce(0, 0, 0, 5); disconnect(0); announce(0, 0, 0, 6) = 5;"
            + "reconnect(0) = 1; nextHop(0, 0) = 0; withdraw(0, 0, 0) = 6");
        Script.play(words, "addPeer(true); addPeer(false); announce(0, 0, 0, 5); announce(1, 1, 7, 6); restart(false);"
            + "withdraw(0, 0, 0) = 5; reconnect(1) = 1; reconnect(0) = 0; withdraw(1, 1, 7) = 6");
        Script.play(words, "addPeer(true); announce(0, 0, 0, 5); restart(true); restart(false); disconnect(0);"
            + "restart(true); reconnect(0) = 1; nextHop(0, 0) = 0");
    }

    private static void offersOutliveTheRestartTimer() {
        Script.play("it stays through any loss of the session until the peer withdraws or replaces it",
            "addPeer(true); announce(0, 0, 0, 5); announce(0, 1, 7, 20); restart(true); tick(100); sessionState(0) = 2;"
            + "nextHop(0, 0) = -6; announce(0, 0, 0, 4) = 5; nextHop(0, 0) = -6; reconnect(0) = 2; nextHop(0, 0) = 0;"
            + "nextHop(1, 7) = 0; isEntryStale(1, 7) = 0");
    }

    private static void onlyOffersOfPeersThatAreUp() {
        String words = "The router knows the offers of exactly those peers whose session is up.";
        Script.play(words, "addPeer(true); addPeer(true); announce(0, 0, 0, 3); announce(1, 0, 0, 9); disconnect(0);"
            + "nextHop(0, 0) = 1; announce(0, 0, 0, 1); nextHop(0, 0) = 1; announce(0, 0, 1, 1); nextHop(0, 1) = -6;"
            + "reconnect(0) = 2; nextHop(0, 0) = 0; nextHop(0, 1) = 0; learnedLength(1, 0, 0) = 2");
        // Peer 1 is HELPING while the router runs: its shorter offer is not known until it comes back.
        Script.play(words, "addPeer(true); addPeer(true); announce(0, 0, 0, 9); announce(1, 0, 0, 3); setDeferralTime(2);"
            + "restart(true); reconnect(0); tick(2); isDeferring() = 0; sessionState(1) = 1; nextHop(0, 0) = 0;"
            + "announce(1, 0, 0, 2) = 3; nextHop(0, 0) = 0; announce(1, 0, 1, 2) = 0; nextHop(0, 1) = -6;"
            + "withdraw(1, 0, 1) = 2; reconnect(1) = 1; nextHop(0, 0) = 1; nextHop(0, 1) = -6");
    }

    private static void noSelectionWhileDeferring() {
        Script.play("While it is deferring, it does not select, and its forwarding table does not change.",
            "addPeer(true); addPeer(true); addPeer(false); announce(0, 0, 0, 5); announce(2, 0, 1, 5); restart(true);"
            + "reconnect(0); reconnect(2); announce(2, 0, 0, 1); announce(0, 0, 2, 1); withdraw(0, 0, 0); withdraw(2, 0, 1);"
            + "nextHop(0, 0) = 0; isEntryStale(0, 0) = 1; nextHop(0, 1) = 2; isEntryStale(0, 1) = 1; nextHop(0, 2) = -6;"
            + "learnedLength(2, 0, 2) = -6; disconnect(0); nextHop(0, 0) = 0; addPeer(true) = 3; endOfTable(3, 0);"
            + "tick(1); nextHop(0, 0) = 0; isEntryStale(0, 0) = 1; disconnect(2); nextHop(0, 1) = 2; reconnect(2);"
            + "disconnect(3); isDeferring() = 1; nextHop(0, 0) = 0; disconnect(1); isDeferring() = 0; nextHop(0, 0) = 2;"
            + "isEntryStale(0, 0) = 0; nextHop(0, 1) = -6; nextHop(0, 2) = -6");
    }

    private static void newPeerWhileRunning() {
        String words = "If the router is running, the peer learns all selected routes at once.";
        Script.play(words, "addPeer(true); addPeer(false) = 1; learnedLength(1, 0, 0) = -6; reachableCount(1) = 0;"
            + "announce(1, 0, 0, 1); announce(0, 1, 7, 20); addPeer(false) = 2; learnedLength(2, 0, 0) = 2;"
            + "isLearnedStale(2, 0, 0) = 0; learnedLength(2, 1, 7) = 21; reachableCount(2) = 2; addPeer(true) = 3;"
            + "learnedLength(3, 1, 7) = 21; learnedLength(0, 1, 7) = -6; learnedLength(1, 1, 7) = 21;"
            + "addPeer(true) = 4; reachableCount(4) = 2; disconnect(4) = 2");
        // A new peer does not disturb a helper that is still away.
        Script.play(words, "addPeer(true); addPeer(true); announce(0, 0, 0, 4); announce(0, 0, 1, 4); setRestartTime(50);"
            + "setDeferralTime(1); restart(true); reconnect(0); tick(1); isDeferring() = 0; withdraw(0, 0, 1);"
            + "addPeer(true) = 2; learnedLength(2, 0, 0) = 5; learnedLength(2, 0, 1) = -6; isLearnedStale(1, 0, 0) = 1;"
            + "isLearnedStale(1, 0, 1) = 1; restartTimer(1) = 49; forward(1, 0, 1) = -7; forward(1, 0, 0) = 0");
    }

    private static void newPeerWhileDeferring() {
        String words = "If the router is deferring, the peer learns nothing yet, and the router waits for it as well if it"
            + " is graceful.";
        Script.play(words, "addPeer(true); announce(0, 0, 0, 4); restart(true); addPeer(false) = 1; waitingPeers() = 1;"
            + "learnedLength(1, 0, 0) = -6; addPeer(true) = 2; waitingPeers() = 5; learnedLength(2, 0, 0) = -6;"
            + "sessionState(2) = 0; reconnect(2) = -4; staleTimer(2) = 0; restartTimer(2) = 0; reconnect(0);"
            + "endOfTable(0, 0) = 1; endOfTable(0, 1) = 1; isDeferring() = 1; waitingPeers() = 4; endOfTable(2, 1) = 1;"
            + "isDeferring() = 1; endOfTable(2, 0) = 1; isDeferring() = 0; learnedLength(1, 0, 0) = 5;"
            + "learnedLength(2, 0, 0) = 5; isLearnedStale(2, 0, 0) = 0");
        Script.play("Its session is UP, and it has marked the end of no table.", "addPeer(true); restart(true);"
            + "reconnect(0); endOfTable(0, 0); addPeer(true); endOfTable(0, 1) = 1; isDeferring() = 1;"
            + "endOfTable(1, 0) = 1; endOfTable(1, 0) = 0; endOfTable(1, 1) = 1; isDeferring() = 0");
    }

    private static void packetsWhateverTheSessions() {
        Script.play("The router hands it to the next hop of its forwarding table, whatever the states of the sessions are.",
            "addPeer(true); addPeer(true); addPeer(false); addPeer(true); announce(2, 0, 0, 4); announce(0, 0, 1, 4);"
            + "restart(true); sessionState(2) = 2; forward(1, 0, 0) = 2; forward(0, 0, 0) = 2; forward(1, 0, 1) = 0;"
            + "reconnect(1); forward(1, 0, 1) = 0; forward(1, 0, 0) = 2; disconnect(0); forward(1, 0, 1) = 0;"
            + "reachableCount(1) = 2; reachableCount(3) = 2; reachableCount(2) = 0; loopCount() = 0");
    }

    private static void everyAnswerOfForward() {
        // A peer that is down has no learned route, so it sends nothing, even if the router has an entry.
        Script.play("The peer sends it to the router only if it learned a route from the router, stale or fresh.",
            "addPeer(true); addPeer(false); addPeer(true); announce(2, 0, 0, 4); forward(0, 0, 0) = 2; forward(1, 0, 0) = 2;"
            + "forward(2, 0, 0) = -6; restart(true); isLearnedStale(0, 0, 0) = 1; forward(0, 0, 0) = 2;"
            + "forward(1, 0, 0) = -6; forward(2, 0, 0) = -6; reachableCount(0) = 1; reachableCount(1) = 0;"
            + "reachableCount(2) = 0; reconnect(1); forward(1, 0, 0) = -6");
        Script.play("DROPPED if the forwarding table has no entry", "addPeer(true); addPeer(true); announce(1, 1, 7, 4);"
            + "announce(1, 0, 0, 4); forward(0, 1, 7) = 1; restart(false); forward(0, 1, 7) = -7; forward(0, 0, 0) = -7;"
            + "forward(0, 0, 1) = -6; reachableCount(0) = 0; loopCount() = 0");
    }
}
