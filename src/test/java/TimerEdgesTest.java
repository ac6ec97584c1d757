/** The edges of the timers: the first and the last tick, what is stopped, what keeps its value, the order in a tick. */
public final class TimerEdgesTest {
    public static void main(String[] args) {
        stoppedTimersAreZero();
        stoppedTimersStayZero();
        runningRestartTimerKeepsItsValue();
        runningStaleTimerKeepsItsValue();
        runningDeferralTimerKeepsItsValue();
        lastTickOfARestartTimer();
        lastTickOfAStaleTimer();
        lastTickOfTheDeferralTimer();
        everyValueOnTheWay();
        restartTimerAndDeferralTimerTogether();
        staleTimerAndDeferralTimerTogether();
        staleTimerOneTickLater();
        helperDownEndsDeferralInTheSameTick();
        deferralEndsInTheMiddleOfATickCall();
        timersOfSeveralPeersInOneTick();
        staleTimerRemovesStaleRoutesAlone();
        onlyTimersCount();
        startedAnew();
        Checks.finish();
    }

    private static void stoppedTimersAreZero() {
        Script.play("A timer that is stopped has the value 0.", "deferralTimer() = 0; addPeer(true); addPeer(false);"
            + "restartTimer(0) = 0; staleTimer(0) = 0; restartTimer(1) = 0; staleTimer(1) = 0");
        Script.play("If the peer was HELPING, its restart timer stops", "addPeer(true); restart(true);"
            + "restartTimer(0) = 10; reconnect(0); restartTimer(0) = 0");
        Script.play("its stale timer stops, and its restart timer starts with the restart time", "addPeer(true);"
            + "restart(true); reconnect(0); staleTimer(0) = 20; restart(true) = 1; staleTimer(0) = 0;"
            + "restartTimer(0) = 10");
        Script.play("When deferral ends, the router is running, its deferral timer stops", "addPeer(true);"
            + "restart(true); tick(3); deferralTimer() = 12; reconnect(0); endOfTable(0, 0); deferralTimer() = 12;"
            + "endOfTable(0, 1); deferralTimer() = 0; staleTimer(0) = 0");
        Script.play("its learned routes are removed, and its timers stop", "addPeer(true); addPeer(true);"
            + "restart(true); reconnect(0); staleTimer(0) = 20; disconnect(0); staleTimer(0) = 0; restartTimer(0) = 0;"
            + "restartTimer(1) = 10; disconnect(1); restartTimer(1) = 0; staleTimer(1) = 0; deferralTimer() = 0");
        Script.play("(the router has told it the end of the table), and its stale timer stops", "addPeer(true);"
            + "setRestartTime(50); setDeferralTime(1); restart(true); tick(1); isDeferring() = 0; restartTimer(0) = 49;"
            + "reconnect(0); restartTimer(0) = 0; staleTimer(0) = 0");
        // One that was DOWN was not HELPING, so no timer of it starts.
        Script.play("If the peer was HELPING .. its stale timer starts with the stale time", "addPeer(true);"
            + "addPeer(true); addPeer(false); disconnect(0); restart(true); reconnect(0); reconnect(2);"
            + "restartTimer(0) = 0; staleTimer(0) = 0; restartTimer(2) = 0; staleTimer(2) = 0");
    }

    private static void stoppedTimersStayZero() {
        Script.play("if its restart timer is above 0, it decreases by 1", "addPeer(true); addPeer(true); tick(100) = 0;"
            + "restartTimer(0) = 0; staleTimer(0) = 0; deferralTimer() = 0; sessionState(0) = 0; restart(true);"
            + "tick(100) = 0; tick(100) = 0; restartTimer(0) = 0; staleTimer(0) = 0; deferralTimer() = 0;"
            + "sessionState(0) = 2; reconnect(0); tick(100) = 0; sessionState(0) = 0; restartTimer(0) = 0");
        // A stopped stale timer removes nothing: the fresh routes stay.
        Script.play("if its stale timer is above 0, it decreases by 1", "addPeer(true); addPeer(true);"
            + "announce(0, 0, 0, 4); tick(100) = 0; learnedLength(1, 0, 0) = 5; isLearnedStale(1, 0, 0) = 0");
        Script.play("Then the deferral timer decreases by 1 if it is above 0.", "tick(1); deferralTimer() = 0;"
            + "isDeferring() = 0; tick(100); deferralTimer() = 0");
    }

    private static void runningRestartTimerKeepsItsValue() {
        String words = "Sets the restart time. Timers that are running keep their values.";
        Script.play(words, "addPeer(true); restart(true); setRestartTime(1) = 10; restartTimer(0) = 10; tick(1);"
            + "restartTimer(0) = 9; setRestartTime(50) = 1; restartTimer(0) = 9; tick(8); sessionState(0) = 1; tick(1);"
            + "sessionState(0) = 2");
        Script.play(words, "addPeer(true); setRestartTime(50); restartTimer(0) = 0; staleTimer(0) = 0");
    }

    private static void runningStaleTimerKeepsItsValue() {
        String words = "Sets the stale time. Timers that are running keep their values.";
        Script.play(words, "addPeer(true); restart(true); reconnect(0); setStaleTime(1) = 20; staleTimer(0) = 20; tick(1);"
            + "staleTimer(0) = 19; setStaleTime(50) = 1; staleTimer(0) = 19; tick(1); staleTimer(0) = 18");
        Script.play(words, "addPeer(true); setStaleTime(50); staleTimer(0) = 0; restart(true); staleTimer(0) = 0");
    }

    private static void runningDeferralTimerKeepsItsValue() {
        String words = "Sets the deferral time. A timer that is running keeps its value.";
        Script.play(words, "addPeer(true); restart(true); reconnect(0); setDeferralTime(1) = 15; deferralTimer() = 15;"
            + "tick(1); deferralTimer() = 14; isDeferring() = 1; setDeferralTime(50) = 1; deferralTimer() = 14; tick(13);"
            + "isDeferring() = 1; tick(1); isDeferring() = 0");
        Script.play(words, "addPeer(true); setDeferralTime(50); deferralTimer() = 0; isDeferring() = 0");
    }

    private static void lastTickOfARestartTimer() {
        Script.play("and if it becomes 0, the peer becomes DOWN and its learned routes are removed",
            "addPeer(true); addPeer(true); addPeer(true); announce(0, 0, 0, 4); announce(0, 1, 7, 4); setRestartTime(5);"
            + "restart(true); reconnect(2); tick(4) = 0; restartTimer(1) = 1; sessionState(1) = 1;"
            + "learnedLength(1, 1, 7) = 5; tick(1) = 2; restartTimer(1) = 0; sessionState(1) = 2;"
            + "learnedLength(1, 1, 7) = -6; isLearnedStale(1, 0, 0) = -6; sessionState(0) = 2; sessionState(2) = 0;"
            + "learnedLength(2, 0, 0) = 5; isDeferring() = 1; waitingPeers() = 4; tick(1) = 0");
        // With one tick left the peer still helps; with none it is DOWN, and no stale timer starts.
        Script.play("If the peer was HELPING, its restart timer stops and its stale timer starts with the stale time.",
            "addPeer(true); addPeer(true); announce(0, 0, 0, 4); restart(true); tick(9); reconnect(1) = 0;"
            + "staleTimer(1) = 20; isLearnedStale(1, 0, 0) = 1; tick(1) = 0; reconnect(0) = 1; staleTimer(0) = 0");
    }

    private static void lastTickOfAStaleTimer() {
        Script.play("and if it becomes 0, the peer removes its learned routes that are stale",
            "addPeer(true); addPeer(true); announce(0, 0, 0, 4); announce(0, 1, 7, 4); setStaleTime(5); restart(true);"
            + "reconnect(1); tick(4) = 0; staleTimer(1) = 1; learnedLength(1, 0, 0) = 5; isLearnedStale(1, 1, 7) = 1;"
            + "forward(1, 0, 0) = 0; tick(1) = 2; staleTimer(1) = 0; learnedLength(1, 0, 0) = -6;"
            + "isLearnedStale(1, 1, 7) = -6; forward(1, 0, 0) = -6; sessionState(1) = 0; nextHop(0, 0) = 0; tick(1) = 0");
    }

    private static void lastTickOfTheDeferralTimer() {
        Script.play("or when the deferral timer reaches 0", "addPeer(true); addPeer(true); announce(0, 0, 0, 4);"
            + "announce(1, 0, 1, 4); restart(true); reconnect(0); reconnect(1); withdraw(0, 0, 0); tick(14) = 0;"
            + "deferralTimer() = 1; isDeferring() = 1; waitingPeers() = 3; nextHop(0, 0) = 0; isEntryStale(0, 1) = 1;"
            + "tick(1) = 0; deferralTimer() = 0; isDeferring() = 0; waitingPeers() = 0; nextHop(0, 0) = -6;"
            + "isEntryStale(0, 1) = 0; learnedLength(1, 0, 0) = -6; isLearnedStale(0, 0, 1) = 0");
    }

    private static void everyValueOnTheWay() {
        Checks.sentence("With every tick the following happens in this order.");
        GracefulRestart x = Checks.withPeers("ggg");
        Script.go(x, "setRestartTime(50); setStaleTime(49); setDeferralTime(50); restart(true); reconnect(1)");
        for (int left = 49; left >= 1; left--) {
            Checks.due("tick(1)", x.tick(1), 0);
            Checks.due("restartTimer(0)", x.restartTimer(0), left);
            Checks.due("staleTimer(1)", x.staleTimer(1), left - 1);
            Checks.due("restartTimer(2)", x.restartTimer(2), left);
            Checks.due("deferralTimer()", x.deferralTimer(), left);
            Checks.due("isDeferring()", x.isDeferring(), 1);
        }
        Script.go(x, "tick(1) = 0; restartTimer(0) = 0; staleTimer(1) = 0; deferralTimer() = 0; isDeferring() = 0");
    }

    private static void restartTimerAndDeferralTimerTogether() {
        Script.play("First, for each peer by ascending number .. Then the deferral timer decreases by 1",
            "addPeer(true); addPeer(true); addPeer(false); announce(2, 0, 0, 4); setRestartTime(7); setDeferralTime(7);"
            + "restart(true); reconnect(2); tick(6) = 0; isDeferring() = 1; tick(1) = 2; sessionState(0) = 2;"
            + "sessionState(1) = 2; isDeferring() = 0; nextHop(0, 0) = 2; isEntryStale(0, 0) = 0;"
            + "learnedLength(1, 0, 0) = -6");
        // One tick less for deferral: the helpers are still there when it ends, and go down one tick later.
        Script.play("Then every peer that is UP removes its learned routes that are still stale",
            "addPeer(true); addPeer(true); addPeer(false); announce(2, 0, 0, 4); setRestartTime(7); setDeferralTime(6);"
            + "restart(true); tick(6) = 0; isDeferring() = 0; nextHop(0, 0) = -6; sessionState(0) = 1;"
            + "isLearnedStale(0, 0, 0) = 1; forward(0, 0, 0) = -7; tick(1) = 2; sessionState(0) = 2; sessionState(1) = 2");
    }

    private static void staleTimerAndDeferralTimerTogether() {
        // The stale timer comes first, so the removal counts though the route is learned anew in the same tick.
        Script.play("First, for each peer .. Then the deferral timer decreases .. Then the end of deferral is checked.",
            "addPeer(true); addPeer(true); announce(0, 0, 0, 4); setStaleTime(6); setDeferralTime(6); restart(true);"
            + "reconnect(0); reconnect(1); tick(5) = 0; tick(1) = 1; isDeferring() = 0; learnedLength(1, 0, 0) = 5;"
            + "isLearnedStale(1, 0, 0) = 0; staleTimer(1) = 0");
    }

    private static void staleTimerOneTickLater() {
        Script.play("Then every peer that is UP removes its learned routes that are still stale, and its stale timer stops.",
            "addPeer(true); addPeer(true); announce(0, 0, 0, 4); announce(0, 0, 1, 4); setStaleTime(7); setDeferralTime(6);"
            + "restart(true); reconnect(0); reconnect(1); withdraw(0, 0, 1); tick(5) = 0; staleTimer(1) = 2; tick(1) = 0;"
            + "isDeferring() = 0; staleTimer(1) = 0; staleTimer(0) = 0; learnedLength(1, 0, 1) = -6;"
            + "learnedLength(1, 0, 0) = 5; tick(1) = 0; tick(100) = 0; learnedLength(1, 0, 0) = 5");
    }

    private static void helperDownEndsDeferralInTheSameTick() {
        Script.play("Then the end of deferral is checked.", "addPeer(true); addPeer(false); announce(1, 0, 0, 4);"
            + "setRestartTime(3); restart(true); reconnect(1) = 1; tick(2) = 0; isDeferring() = 1; deferralTimer() = 13;"
            + "tick(1) = 1; isDeferring() = 0; deferralTimer() = 0; nextHop(0, 0) = 1; isEntryStale(0, 0) = 0");
        // Of two helpers the later one decides.
        Script.play("Then the end of deferral is checked.", "addPeer(true); addPeer(true); setRestartTime(3);"
            + "restart(true); reconnect(0); setRestartTime(5); restart(true) = 1; restartTimer(0) = 5; restartTimer(1) = 3;"
            + "tick(3); waitingPeers() = 1; isDeferring() = 1; tick(1); isDeferring() = 1; tick(1); isDeferring() = 0");
    }

    private static void deferralEndsInTheMiddleOfATickCall() {
        Script.play("Lets time pass.", "addPeer(true); addPeer(true); announce(0, 0, 0, 4); setRestartTime(10);"
            + "setDeferralTime(4); restart(true); reconnect(0); tick(9) = 0; isDeferring() = 0; restartTimer(1) = 1;"
            + "isLearnedStale(1, 0, 0) = 1; isEntryStale(0, 0) = 0; tick(100) = 1; sessionState(1) = 2");
        Script.play("Lets time pass.", "addPeer(true); addPeer(true); announce(0, 0, 0, 4); setStaleTime(3);"
            + "setDeferralTime(4); restart(true); reconnect(0); reconnect(1); tick(100) = 1; learnedLength(1, 0, 0) = 5;"
            + "isLearnedStale(1, 0, 0) = 0");
    }

    private static void timersOfSeveralPeersInOneTick() {
        Script.play("the number of learned routes that the peers removed during these ticks",
            "addPeer(true); addPeer(true); addPeer(true); addPeer(true); announce(0, 0, 0, 4); announce(0, 0, 1, 4);"
            + "announce(0, 1, 1, 4); setStaleTime(10); restart(true); reconnect(1); reconnect(0); tick(9) = 0;"
            + "restartTimer(2) = 1; staleTimer(1) = 1; tick(1) = 9; tick(5) = 0");
        Script.play("the number of learned routes that the peers removed during these ticks",
            "addPeer(true); addPeer(true); addPeer(true); announce(0, 0, 0, 4); setStaleTime(4); restart(true);"
            + "reconnect(1); tick(10) = 2; tick(1) = 0");
    }

    private static void staleTimerRemovesStaleRoutesAlone() {
        // Fresh and stale routes never stand together at the end of a stale timer: none is fresh while deferring.
        Script.play("the peer removes its learned routes that are stale", "addPeer(true); addPeer(true);"
            + "announce(0, 0, 0, 4); setStaleTime(2); restart(true); reconnect(1); reconnect(0); announce(0, 0, 1, 4);"
            + "learnedLength(1, 0, 1) = -6; tick(2) = 1; learnedLength(1, 0, 0) = -6; tick(13) = 0; isDeferring() = 0;"
            + "learnedLength(1, 0, 0) = 5; learnedLength(1, 0, 1) = 5; tick(100) = 0");
    }

    private static void onlyTimersCount() {
        Script.play("removed during these ticks, because a restart timer or a stale timer became 0",
            "addPeer(true); addPeer(true); announce(0, 0, 0, 4); announce(0, 1, 0, 4); restart(true); reconnect(0);"
            + "reconnect(1); withdraw(0, 0, 0); tick(15) = 0; learnedLength(1, 0, 0) = -6; learnedLength(1, 1, 0) = 5;"
            + "isDeferring() = 0");
    }

    private static void startedAnew() {
        Script.play("its restart timer starts with the restart time", "addPeer(true); restart(true); tick(4);"
            + "restartTimer(0) = 6; reconnect(0); restart(true); restartTimer(0) = 10; reconnect(0); setRestartTime(2);"
            + "restart(true); restartTimer(0) = 2");
        Script.play("its stale timer starts with the stale time", "addPeer(true); restart(true); reconnect(0); tick(4);"
            + "staleTimer(0) = 16; restart(true); reconnect(0); staleTimer(0) = 20; setStaleTime(3); restart(true);"
            + "reconnect(0); staleTimer(0) = 3");
        Script.play("its deferral timer starts with the deferral time", "addPeer(true); restart(true); tick(4);"
            + "deferralTimer() = 11; restart(false) = 0; deferralTimer() = 15; setDeferralTime(2); restart(true);"
            + "deferralTimer() = 2; tick(2); isDeferring() = 0; restart(true) = 0; isDeferring() = 1; deferralTimer() = 2");
    }
}
