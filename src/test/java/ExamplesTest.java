/** The four examples of the document's description, call by call. */
public final class ExamplesTest {
    public static void main(String[] args) {
        packetsGoOn();
        deferralEnds();
        helperDoesNotComeBack();
        errorsInOrder();
        Checks.finish();
    }

    private static void packetsGoOn() {
        GracefulRestart x = new GracefulRestart();
        Checks.due("1: addPeer(true)", x.addPeer(true), 0);
        Checks.due("1: addPeer(true)", x.addPeer(true), 1);
        Checks.due("1: announce(0, 0, 3, 4)", x.announce(0, 0, 3, 4), 0);
        Checks.due("1: nextHop(0, 3)", x.nextHop(0, 3), 0);
        Checks.due("1: learnedLength(1, 0, 3)", x.learnedLength(1, 0, 3), 5);
        Checks.due("1: learnedLength(0, 0, 3)", x.learnedLength(0, 0, 3), -6);
        Checks.due("1: restart(true)", x.restart(true), 2);
        Checks.due("1: sessionState(1)", x.sessionState(1), 1);
        Checks.due("1: isLearnedStale(1, 0, 3)", x.isLearnedStale(1, 0, 3), 1);
        Checks.due("1: nextHop(0, 3)", x.nextHop(0, 3), 0);
        Checks.due("1: forward(1, 0, 3)", x.forward(1, 0, 3), 0);
        Checks.due("1: waitingPeers()", x.waitingPeers(), 3);
    }

    private static void deferralEnds() {
        GracefulRestart x = new GracefulRestart();
        Checks.due("2: addPeer(true)", x.addPeer(true), 0);
        Checks.due("2: addPeer(true)", x.addPeer(true), 1);
        Checks.due("2: announce(0, 0, 3, 4)", x.announce(0, 0, 3, 4), 0);
        Checks.due("2: restart(true)", x.restart(true), 2);
        Checks.due("2: reconnect(0)", x.reconnect(0), 1);
        Checks.due("2: endOfTable(0, 0)", x.endOfTable(0, 0), 1);
        Checks.due("2: endOfTable(0, 1)", x.endOfTable(0, 1), 1);
        Checks.due("2: waitingPeers()", x.waitingPeers(), 2);
        Checks.due("2: reconnect(1)", x.reconnect(1), 0);
        Checks.due("2: endOfTable(1, 0)", x.endOfTable(1, 0), 1);
        Checks.due("2: isDeferring()", x.isDeferring(), 1);
        Checks.due("2: endOfTable(1, 1)", x.endOfTable(1, 1), 1);
        Checks.due("2: isDeferring()", x.isDeferring(), 0);
        Checks.due("2: isEntryStale(0, 3)", x.isEntryStale(0, 3), 0);
        Checks.due("2: isLearnedStale(1, 0, 3)", x.isLearnedStale(1, 0, 3), 0);
    }

    private static void helperDoesNotComeBack() {
        GracefulRestart x = new GracefulRestart();
        Checks.due("3: addPeer(true)", x.addPeer(true), 0);
        Checks.due("3: addPeer(false)", x.addPeer(false), 1);
        Checks.due("3: announce(0, 1, 0, 2)", x.announce(0, 1, 0, 2), 0);
        Checks.due("3: announce(1, 1, 0, 2)", x.announce(1, 1, 0, 2), 0);
        Checks.due("3: nextHop(1, 0)", x.nextHop(1, 0), 0);
        Checks.due("3: setRestartTime(2)", x.setRestartTime(2), 10);
        Checks.due("3: restart(false)", x.restart(false), 2);
        Checks.due("3: nextHop(1, 0)", x.nextHop(1, 0), -6);
        Checks.due("3: forward(0, 1, 0)", x.forward(0, 1, 0), -6);
        Checks.due("3: sessionState(1)", x.sessionState(1), 2);
        Checks.due("3: tick(1)", x.tick(1), 0);
        Checks.due("3: tick(1)", x.tick(1), 0);
        Checks.due("3: isDeferring()", x.isDeferring(), 0);
        Checks.due("3: sessionState(0)", x.sessionState(0), 2);
    }

    private static void errorsInOrder() {
        GracefulRestart x = new GracefulRestart();
        Checks.due("4: announce(0, 9, 9, 0)", x.announce(0, 9, 9, 0), -1);
        Checks.due("4: addPeer(true)", x.addPeer(true), 0);
        Checks.due("4: announce(0, 9, 9, 0)", x.announce(0, 9, 9, 0), -2);
        Checks.due("4: announce(0, 1, 7, 0)", x.announce(0, 1, 7, 0), -3);
        Checks.due("4: reconnect(0)", x.reconnect(0), -4);
        Checks.due("4: withdraw(0, 1, 7)", x.withdraw(0, 1, 7), -6);
        Checks.due("4: tick(0)", x.tick(0), -3);
    }
}
