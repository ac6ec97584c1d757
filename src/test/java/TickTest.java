/** Promise 12: tick, with the order of the timers. */
public final class TickTest {
    public static void main(String[] args) {
        wrongValues();
        nothingRuns();
        restartTimerEnds();
        staleTimerEnds();
        deferralTimerEnds();
        removalsAtTheEndOfDeferralAreNotCounted();
        helpersOutliveDeferral();
        peersComeBeforeDeferral();
        manyTicksAreOneByOne();
        Checks.finish();
    }

    private static void wrongValues() {
        GracefulRestart x = Checks.withPeers("gg");
        x.announce(0, 0, 0, 3);
        x.restart(true);
        x.reconnect(0);
        String before = Checks.snapshot(x);
        for (int ticks : new int[] {0, -1, 101, Integer.MIN_VALUE, Integer.MAX_VALUE}) {
            Checks.due("tick(" + ticks + ")", x.tick(ticks), -3);
        }
        Checks.holds("tick's errors change nothing", before.equals(Checks.snapshot(x)));
    }

    private static void nothingRuns() {
        GracefulRestart x = Checks.withPeers("gn");
        x.announce(0, 0, 0, 3);
        String before = Checks.snapshot(x);
        Checks.due("tick(1)", x.tick(1), 0);
        Checks.due("tick(100)", x.tick(100), 0);
        Checks.holds("ticks change nothing", before.equals(Checks.snapshot(x)));
    }

    private static void restartTimerEnds() {
        GracefulRestart x = Checks.withPeers("ggg");
        x.announce(0, 0, 0, 3);
        x.announce(0, 1, 5, 3);
        x.restart(true);
        x.tick(2);
        x.reconnect(0);
        Checks.due("tick(7)", x.tick(7), 0);
        Checks.due("restartTimer(1)", x.restartTimer(1), 1);
        Checks.due("sessionState(1)", x.sessionState(1), 1);
        Checks.due("tick(1) removes the routes of two helpers", x.tick(1), 4);
        Checks.due("restartTimer(1)", x.restartTimer(1), 0);
        Checks.due("sessionState(1)", x.sessionState(1), 2);
        Checks.due("sessionState(0)", x.sessionState(0), 0);
        Checks.due("learnedLength(2, 1, 5)", x.learnedLength(2, 1, 5), -6);
        Checks.due("waitingPeers()", x.waitingPeers(), 1);
        Checks.due("deferralTimer()", x.deferralTimer(), 5);
    }

    private static void staleTimerEnds() {
        GracefulRestart x = Checks.withPeers("gg");
        x.announce(0, 0, 0, 3);
        x.setStaleTime(2);
        x.restart(true);
        x.reconnect(1);
        Checks.due("tick(1)", x.tick(1), 0);
        Checks.due("staleTimer(1)", x.staleTimer(1), 1);
        Checks.due("isLearnedStale(1, 0, 0)", x.isLearnedStale(1, 0, 0), 1);
        Checks.due("tick(1)", x.tick(1), 1);
        Checks.due("staleTimer(1)", x.staleTimer(1), 0);
        Checks.due("learnedLength(1, 0, 0)", x.learnedLength(1, 0, 0), -6);
        Checks.due("sessionState(1)", x.sessionState(1), 0);
        Checks.due("isDeferring()", x.isDeferring(), 1);
    }

    private static void deferralTimerEnds() {
        GracefulRestart x = Checks.withPeers("gg");
        x.announce(0, 0, 0, 3);
        x.announce(1, 0, 1, 3);
        x.restart(true);
        x.reconnect(0);
        x.reconnect(1);
        x.withdraw(0, 0, 0);
        Checks.due("tick(14)", x.tick(14), 0);
        Checks.due("deferralTimer()", x.deferralTimer(), 1);
        Checks.due("isDeferring()", x.isDeferring(), 1);
        Checks.due("staleTimer(1)", x.staleTimer(1), 6);
        Checks.due("nextHop(0, 0)", x.nextHop(0, 0), 0);
        Checks.due("tick(1)", x.tick(1), 0);
        Checks.due("isDeferring()", x.isDeferring(), 0);
        Checks.due("waitingPeers()", x.waitingPeers(), 0);
        Checks.due("nextHop(0, 0)", x.nextHop(0, 0), -6);
        Checks.due("staleTimer(1)", x.staleTimer(1), 0);
        Checks.due("isLearnedStale(0, 0, 1)", x.isLearnedStale(0, 0, 1), 0);
    }

    private static void removalsAtTheEndOfDeferralAreNotCounted() {
        GracefulRestart x = Checks.withPeers("gg");
        x.announce(0, 0, 0, 3);
        x.restart(true);
        x.reconnect(1);
        x.reconnect(0);
        x.withdraw(0, 0, 0);
        Checks.due("tick(15)", x.tick(15), 0);
        Checks.due("learnedLength(1, 0, 0)", x.learnedLength(1, 0, 0), -6);
    }

    private static void helpersOutliveDeferral() {
        GracefulRestart x = Checks.withPeers("gg");
        x.announce(0, 0, 0, 3);
        x.setRestartTime(20);
        x.setDeferralTime(5);
        x.restart(true);
        Checks.due("tick(5)", x.tick(5), 0);
        Checks.due("isDeferring()", x.isDeferring(), 0);
        Checks.due("sessionState(1)", x.sessionState(1), 1);
        Checks.due("isLearnedStale(1, 0, 0)", x.isLearnedStale(1, 0, 0), 1);
        Checks.due("nextHop(0, 0)", x.nextHop(0, 0), -6);
        Checks.due("restartTimer(1)", x.restartTimer(1), 15);
        Checks.due("tick(100)", x.tick(100), 1);
        Checks.due("sessionState(1)", x.sessionState(1), 2);
    }

    private static void peersComeBeforeDeferral() {
        GracefulRestart x = Checks.withPeers("gg");
        x.announce(0, 0, 0, 3);
        x.setStaleTime(15);
        x.restart(true);
        x.reconnect(0);
        x.reconnect(1);
        // The stale timer ends in the same tick as deferral, and before it: the removal is counted.
        Checks.due("tick(15)", x.tick(15), 1);
        Checks.due("learnedLength(1, 0, 0), learned anew", x.learnedLength(1, 0, 0), 4);
        Checks.due("isLearnedStale(1, 0, 0)", x.isLearnedStale(1, 0, 0), 0);
    }

    private static void manyTicksAreOneByOne() {
        GracefulRestart x = Checks.withPeers("ggn");
        GracefulRestart y = Checks.withPeers("ggn");
        for (GracefulRestart z : new GracefulRestart[] {x, y}) {
            z.announce(2, 0, 0, 3);
            z.setRestartTime(4);
            z.setStaleTime(3);
            z.restart(true);
            z.reconnect(0);
            z.reconnect(2);
        }
        int removed = 0;
        for (int i = 0; i < 100; i++) {
            removed += x.tick(1);
        }
        Checks.due("tick(100)", y.tick(100), removed);
        Checks.due("removed", removed, 2);
        Checks.holds("the same in the end", Checks.snapshot(x).equals(Checks.snapshot(y)));
    }
}
