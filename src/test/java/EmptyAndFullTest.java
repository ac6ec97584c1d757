/** Nothing there yet and everything there already: peers, offers, learned routes, entries and marks. */
public final class EmptyAndFullTest {
    public static void main(String[] args) {
        newObject();
        noPeer();
        restartWithoutPeers();
        fivePeers();
        fullInEveryState();
        fullLeavesThePeersAlone();
        noOffer();
        everyOffer();
        lastOfferWithdrawn();
        noLearnedRoute();
        everyLearnedRoute();
        everyLearnedRouteTimedOut();
        everyEntry();
        noMarkAndEveryMark();
        nobodyAndEverybodyAwaited();
        onePeerAlone();
        Checks.finish();
    }

    private static void newObject() {
        Script.play("There are no peers; the router is running; restart time 10, stale time 20, deferral time 15.",
            "isDeferring() = 0; deferralTimer() = 0; waitingPeers() = 0; loopCount() = 0; sessionState(0) = -1;"
            + "setRestartTime(1) = 10; setStaleTime(1) = 20; setDeferralTime(1) = 15; tick(100) = 0; tick(1) = 0");
        noEntries(new GracefulRestart());
    }

    private static void noPeer() {
        String words = "NO_SUCH_PEER: The peer does not exist.";
        for (int peer = 0; peer < 6; peer++) {
            Script.play(words, ("announce(#, 0, 0, 1) = -1; withdraw(#, 0, 0) = -1; reconnect(#) = -1;"
                + "disconnect(#) = -1; endOfTable(#, 0) = -1; sessionState(#) = -1; restartTimer(#) = -1;"
                + "staleTimer(#) = -1; learnedLength(#, 0, 0) = -1; isLearnedStale(#, 0, 0) = -1;"
                + "forward(#, 0, 0) = -1; reachableCount(#) = -1").replace("#", "" + peer));
        }
    }

    private static void restartWithoutPeers() {
        for (boolean preserve : new boolean[] {true, false}) {
            GracefulRestart x = Script.play("Deferral ends as soon as the router waits for no peer", "restart(" + preserve
                + ") = 0; isDeferring() = 0; deferralTimer() = 0; waitingPeers() = 0");
            noEntries(x);
            Script.go(x, "tick(100) = 0; addPeer(true) = 0; sessionState(0) = 0; isDeferring() = 0; restart(true) = 1;"
                + "isDeferring() = 1");
        }
    }

    private static void fivePeers() {
        GracefulRestart x = Script.play("FULL: There are already 5 peers.",
            "addPeer(true) = 0; addPeer(false) = 1; addPeer(true) = 2; addPeer(false) = 3; addPeer(true) = 4;"
            + "addPeer(true) = -5; addPeer(false) = -5; sessionState(5) = -1; announce(5, 0, 0, 1) = -1");
        for (int peer = 0; peer < 5; peer++) {
            Script.go(x, ("sessionState(#) = 0; restartTimer(#) = 0; staleTimer(#) = 0; reachableCount(#) = 0;"
                + "announce(#, 1, 7, 20) = 0; withdraw(#, 1, 7) = 20").replace("#", "" + peer));
        }
        Script.play("numbered from 0 in the order in which they are added",
            "addPeer(false) = 0; sessionState(1) = -1; addPeer(true) = 1; sessionState(2) = -1; addPeer(false) = 2;"
            + "sessionState(3) = -1; addPeer(true) = 3; sessionState(4) = -1; addPeer(false) = 4; restart(true) = 5;"
            + "sessionState(0) = 2; sessionState(1) = 1; sessionState(2) = 2; sessionState(3) = 1; sessionState(4) = 2");
    }

    private static void fullInEveryState() {
        String five = "addPeer(true); addPeer(true); addPeer(true); addPeer(true); addPeer(true);";
        String full = "addPeer(true) = -5; addPeer(false) = -5";
        Script.play("FULL: There are already 5 peers.", five + "disconnect(4); disconnect(0);" + full);
        Script.play("FULL: There are already 5 peers.", five + "restart(true); " + full + "; waitingPeers() = 31");
        Script.play("FULL: There are already 5 peers.", five + "restart(false); tick(100); " + full);
        // The fifth place is free until it is taken, whatever became of the others.
        Script.play("It has up to 5 peers", "addPeer(true); disconnect(0); addPeer(true) = 1; addPeer(true) = 2;"
            + "restart(true); addPeer(true) = 3; tick(100); addPeer(true) = 4; addPeer(true) = -5");
    }

    private static void fullLeavesThePeersAlone() {
        Checks.sentence("FULL: There are already 5 peers.");
        GracefulRestart x = Checks.withPeers("ggngn");
        Script.go(x, "announce(4, 0, 0, 2); announce(0, 1, 7, 5); restart(true); reconnect(0); endOfTable(0, 1)");
        String before = Checks.snapshot(x);
        Script.go(x, "addPeer(true) = -5; addPeer(false) = -5");
        Checks.holds("nothing changed", before.equals(Checks.snapshot(x)));
        Script.go(x, "endOfTable(0, 1) = 0; endOfTable(0, 0) = 1; waitingPeers() = 10");
    }

    private static void noOffer() {
        Checks.sentence("NONE if the peer has no such offer");
        GracefulRestart x = Checks.withPeers("gngng");
        for (int peer = 0; peer < 5; peer++) {
            for (int route = 0; route < 16; route++) {
                Checks.due("withdraw", x.withdraw(peer, route / 8, route % 8), -6);
            }
        }
        noEntries(x);
        Script.go(x, "announce(0, 0, 0, 3) = 0; withdraw(1, 0, 0) = -6; withdraw(0, 1, 0) = -6; withdraw(0, 0, 1) = -6;"
            + "nextHop(0, 0) = 0; withdraw(0, 0, 0) = 3; withdraw(0, 0, 0) = -6");
        Checks.sentence("the number of offers that the router knows from the peer now, in both tables");
        Script.go(x, "disconnect(0) = 0; reconnect(0) = 0; restart(true); reconnect(0) = 0; reconnect(1) = 0");
        Script.play("Adds a peer without offers.", "addPeer(true) = 0; withdraw(0, 0, 0) = -6; nextHop(0, 0) = -6;"
            + "announce(0, 0, 0, 7) = 0; addPeer(true) = 1; withdraw(1, 0, 0) = -6; nextHop(0, 0) = 0");
    }

    private static void everyOffer() {
        GracefulRestart x = Checks.withPeers("ggggg");
        Checks.sentence("0 if there was none");
        for (int peer = 4; peer >= 0; peer--) {
            everywhere(x, peer, 3 + peer, 0);
        }
        Checks.sentence("Returns the path length of the replaced offer");
        everywhere(x, 4, 7, 7);
        everywhere(x, 4, 20, 7);
        Checks.sentence("the number of offers that the router knows from the peer now, in both tables");
        Script.go(x, "disconnect(2); reconnect(2) = 16; restart(true) = 5; reconnect(4) = 16; withdraw(0, 0, 0) = 3;"
            + "reconnect(0) = 15; withdraw(3, 1, 7) = 6; withdraw(3, 0, 7) = 6; reconnect(3) = 14");
        for (int prefix = 0; prefix < 8; prefix++) {
            x.withdraw(1, 1, prefix);
        }
        Script.go(x, "reconnect(1) = 8; reconnect(2) = 16");
    }

    private static void lastOfferWithdrawn() {
        Checks.sentence("Without a known offer the forwarding table has no entry afterwards.");
        GracefulRestart x = Checks.withPeers("ggggg");
        for (int peer = 0; peer < 5; peer++) {
            everywhere(x, peer, 4, 0);
        }
        for (int peer = 0; peer < 5; peer++) {
            for (int route = 0; route < 16; route++) {
                Checks.due("nextHop", x.nextHop(route / 8, route % 8), peer);
                Checks.due("withdraw", x.withdraw(peer, route / 8, route % 8), 4);
                Checks.due("nextHop", x.nextHop(route / 8, route % 8), peer == 4 ? -6 : peer + 1);
            }
        }
        noEntries(x);
        for (int peer = 0; peer < 5; peer++) {
            Checks.due("disconnect, nothing learned", x.disconnect(peer), 0);
        }
    }

    private static void noLearnedRoute() {
        String words = "Returns the number of learned routes that the peer removed, in both tables";
        Script.play(words, "addPeer(true); disconnect(0) = 0");
        Script.play(words, "addPeer(true); restart(true); disconnect(0) = 0");
        Script.play(words, "addPeer(true); announce(0, 0, 0, 1); announce(0, 1, 7, 1); disconnect(0) = 0");
        Script.play("NONE if it has no such route", "addPeer(true); announce(0, 0, 0, 1); learnedLength(0, 0, 0) = -6;"
            + "isLearnedStale(0, 0, 0) = -6; forward(0, 0, 0) = -6; reachableCount(0) = 0; loopCount() = 0");
    }

    private static void everyLearnedRoute() {
        GracefulRestart x = Checks.withPeers("gnggn");
        everywhere(x, 2, 20, 0);
        Checks.sentence("Counts the pairs of a table and a prefix for which a packet of the peer gets to another peer.");
        Script.go(x, "reachableCount(0) = 16; reachableCount(1) = 16; reachableCount(2) = 0; reachableCount(3) = 16;"
            + "reachableCount(4) = 16; loopCount() = 0");
        Checks.sentence("Returns the number of learned routes that the peer removed, in both tables");
        Script.go(x, "disconnect(4) = 16; reachableCount(4) = 0; restart(true); disconnect(0) = 16; reachableCount(0) = 0;"
            + "reachableCount(3) = 16; reconnect(3); disconnect(3) = 16; disconnect(2) = 0");
    }

    private static void everyLearnedRouteTimedOut() {
        String words = "because a restart timer or a stale timer became 0";
        Checks.sentence(words);
        GracefulRestart x = Checks.withPeers("ggggg");
        everywhere(x, 4, 1, 0);
        Script.go(x, "restart(true) = 5; tick(9) = 0; tick(1) = 64; tick(100) = 0");
        GracefulRestart y = Checks.withPeers("ggggg");
        everywhere(y, 0, 1, 0);
        Script.go(y, "setStaleTime(3); restart(false) = 5; reconnect(0); reconnect(1); reconnect(2); reconnect(3);"
            + "reconnect(4); tick(2) = 0; reachableCount(1) = 0; learnedLength(4, 1, 7) = 2; tick(1) = 64;"
            + "learnedLength(4, 1, 7) = -6; isDeferring() = 1");
    }

    private static void everyEntry() {
        Checks.sentence("all entries stay and become stale");
        GracefulRestart x = Checks.withPeers("gg");
        everywhere(x, 1, 6, 0);
        x.restart(true);
        for (int route = 0; route < 16; route++) {
            Checks.due("nextHop", x.nextHop(route / 8, route % 8), 1);
            Checks.due("isEntryStale", x.isEntryStale(route / 8, route % 8), 1);
        }
        Checks.sentence("or loses it (all entries are removed)");
        x.restart(false);
        noEntries(x);
        Checks.sentence("all entries stay and become stale");
        x.restart(true);
        noEntries(x);
    }

    private static void noMarkAndEveryMark() {
        String words = "Returns 1 if the mark is new, 0 if the peer had already marked the end of the table";
        for (String kinds : new String[] {"ggggg", "nnnnn"}) {
            Checks.sentence(words);
            GracefulRestart x = Checks.withPeers(kinds);
            markAll(x, 1);
            markAll(x, 0);
            Checks.sentence("A mark stays until the next restart.");
            for (int peer = 0; peer < 5; peer++) {
                x.disconnect(peer);
                x.reconnect(peer);
            }
            x.tick(100);
            markAll(x, 0);
            Checks.sentence("all end-of-table marks are erased");
            x.restart(true);
            for (int peer = 0; peer < 5; peer++) {
                x.reconnect(peer);
            }
            markAll(x, 1);
        }
    }

    private static void markAll(GracefulRestart x, int want) {
        for (int peer = 0; peer < 5; peer++) {
            Checks.due("endOfTable(" + peer + ", 1)", x.endOfTable(peer, 1), want);
            Checks.due("endOfTable(" + peer + ", 0)", x.endOfTable(peer, 0), want);
        }
    }

    private static void nobodyAndEverybodyAwaited() {
        String words = "a bit set (bit k stands for peer k); 0 if the router is running";
        Checks.sentence(words);
        for (int kinds = 0; kinds < 32; kinds++) {
            GracefulRestart x = new GracefulRestart();
            for (int peer = 0; peer < 5; peer++) {
                x.addPeer((kinds >> peer & 1) == 1);
            }
            Checks.due("waitingPeers(), running", x.waitingPeers(), 0);
            x.restart(true);
            Checks.due("waitingPeers()", x.waitingPeers(), kinds);
            Checks.due("isDeferring()", x.isDeferring(), kinds == 0 ? 0 : 1);
        }
    }

    private static void onePeerAlone() {
        Script.play("a peer that is not the next hop learns the route", "addPeer(true); announce(0, 0, 0, 1);"
            + "nextHop(0, 0) = 0; learnedLength(0, 0, 0) = -6; restart(true) = 1; nextHop(0, 0) = 0; isEntryStale(0, 0) = 1;"
            + "forward(0, 0, 0) = -6; reconnect(0) = 1; endOfTable(0, 0) = 1; endOfTable(0, 1) = 1; isDeferring() = 0;"
            + "nextHop(0, 0) = 0; isEntryStale(0, 0) = 0; learnedLength(0, 0, 0) = -6; loopCount() = 0");
    }

    private static void everywhere(GracefulRestart x, int peer, int length, int replaced) {
        for (int route = 0; route < 16; route++) {
            Checks.due("announce", x.announce(peer, route / 8, route % 8, length), replaced);
        }
    }

    private static void noEntries(GracefulRestart x) {
        for (int route = 0; route < 16; route++) {
            Checks.due("nextHop", x.nextHop(route / 8, route % 8), -6);
            Checks.due("isEntryStale", x.isEntryStale(route / 8, route % 8), -6);
        }
    }
}
