/** Promises 1 to 4: a new object and the three times. */
public final class SettingsTest {
    private static final int[] WRONG = {0, 51, -1, 100, Integer.MIN_VALUE, Integer.MAX_VALUE};

    public static void main(String[] args) {
        newObject();
        previousValues();
        wrongValues();
        timesAreUsed();
        runningTimersKeepTheirValues();
        Checks.finish();
    }

    private static void newObject() {
        GracefulRestart x = new GracefulRestart();
        Checks.due("sessionState(0)", x.sessionState(0), -1);
        Checks.due("isDeferring()", x.isDeferring(), 0);
        Checks.due("deferralTimer()", x.deferralTimer(), 0);
        Checks.due("waitingPeers()", x.waitingPeers(), 0);
        Checks.due("loopCount()", x.loopCount(), 0);
        for (int table = 0; table < 2; table++) {
            for (int prefix = 0; prefix < 8; prefix++) {
                Checks.due("nextHop", x.nextHop(table, prefix), -6);
                Checks.due("isEntryStale", x.isEntryStale(table, prefix), -6);
            }
        }
        Checks.due("restart time", x.setRestartTime(1), 10);
        Checks.due("stale time", x.setStaleTime(1), 20);
        Checks.due("deferral time", x.setDeferralTime(1), 15);
        GracefulRestart other = new GracefulRestart();
        Checks.due("another object's restart time", other.setRestartTime(1), 10);
    }

    private static void previousValues() {
        GracefulRestart x = new GracefulRestart();
        x.setRestartTime(1);
        x.setStaleTime(2);
        x.setDeferralTime(3);
        Checks.due("setRestartTime(50)", x.setRestartTime(50), 1);
        Checks.due("setStaleTime(50)", x.setStaleTime(50), 2);
        Checks.due("setDeferralTime(50)", x.setDeferralTime(50), 3);
        Checks.due("setRestartTime(7)", x.setRestartTime(7), 50);
        Checks.due("setStaleTime(7)", x.setStaleTime(7), 50);
        Checks.due("setDeferralTime(7)", x.setDeferralTime(7), 50);
    }

    private static void wrongValues() {
        GracefulRestart x = new GracefulRestart();
        for (int ticks : WRONG) {
            Checks.due("setRestartTime(" + ticks + ")", x.setRestartTime(ticks), -3);
            Checks.due("setStaleTime(" + ticks + ")", x.setStaleTime(ticks), -3);
            Checks.due("setDeferralTime(" + ticks + ")", x.setDeferralTime(ticks), -3);
        }
        Checks.due("setRestartTime after errors", x.setRestartTime(5), 10);
        Checks.due("setStaleTime after errors", x.setStaleTime(5), 20);
        Checks.due("setDeferralTime after errors", x.setDeferralTime(5), 15);
    }

    private static void timesAreUsed() {
        GracefulRestart x = Checks.withPeers("g");
        x.setRestartTime(31);
        x.setStaleTime(32);
        x.setDeferralTime(33);
        x.restart(true);
        Checks.due("restartTimer(0)", x.restartTimer(0), 31);
        Checks.due("deferralTimer()", x.deferralTimer(), 33);
        x.reconnect(0);
        Checks.due("staleTimer(0)", x.staleTimer(0), 32);
    }

    private static void runningTimersKeepTheirValues() {
        GracefulRestart x = Checks.withPeers("gg");
        x.restart(true);
        x.reconnect(0);
        x.setRestartTime(40);
        x.setStaleTime(41);
        x.setDeferralTime(42);
        Checks.due("restartTimer(1)", x.restartTimer(1), 10);
        Checks.due("staleTimer(0)", x.staleTimer(0), 20);
        Checks.due("deferralTimer()", x.deferralTimer(), 15);
    }
}
