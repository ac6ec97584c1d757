/**
 * The ranges of all parameters: the last value that is allowed and the first that is not, on both sides, the smallest
 * and the largest int, and the order in which several wrong ones are told.
 */
public final class RangesTest {
    private static final int MIN = Integer.MIN_VALUE;
    private static final int MAX = Integer.MAX_VALUE;
    /** The methods with a peer, a table, a prefix or a length; a letter for each parameter, in order. */
    private static final String[][] METHODS = {
        {"announce", "PTXL"}, {"withdraw", "PTX"}, {"reconnect", "P"}, {"disconnect", "P"}, {"endOfTable", "PT"},
        {"nextHop", "TX"}, {"isEntryStale", "TX"}, {"sessionState", "P"}, {"restartTimer", "P"}, {"staleTimer", "P"},
        {"learnedLength", "PTX"}, {"isLearnedStale", "PTX"}, {"forward", "PTX"}, {"reachableCount", "P"}
    };

    public static void main(String[] args) {
        restartTimes();
        staleTimes();
        deferralTimes();
        ticks();
        lengths();
        for (int peers = 0; peers <= 5; peers++) {
            peerNumbers(peers);
        }
        tables();
        prefixes();
        ordersOfErrors();
        namedErrorsInOrder();
        Checks.finish();
    }

    private static void restartTimes() {
        String words = "Sets the restart time. .. ticks: 1 to 50";
        Script.play(words, "addPeer(true) = 0; setRestartTime(1) = 10; setRestartTime(0) = -3; setRestartTime(-1) = -3;"
            + "setRestartTime(MIN) = -3; restart(true) = 1; restartTimer(0) = 1; tick(1) = 0; sessionState(0) = 2");
        Script.play(words, "addPeer(true) = 0; setRestartTime(50) = 10; setRestartTime(51) = -3;"
            + "setRestartTime(MAX) = -3; restart(true) = 1; restartTimer(0) = 50; tick(49) = 0; sessionState(0) = 1;"
            + "restartTimer(0) = 1; tick(1) = 0; sessionState(0) = 2; setRestartTime(50) = 50");
        everyTime("setRestartTime", 10);
    }

    private static void staleTimes() {
        String words = "Sets the stale time. .. ticks: 1 to 50";
        Script.play(words, "addPeer(true) = 0; setStaleTime(1) = 20; setStaleTime(0) = -3; setStaleTime(-1) = -3;"
            + "setStaleTime(MIN) = -3; restart(true) = 1; reconnect(0) = 0; staleTimer(0) = 1; tick(1) = 0;"
            + "staleTimer(0) = 0");
        Script.play(words, "addPeer(true) = 0; setDeferralTime(50) = 15; setStaleTime(50) = 20; setStaleTime(51) = -3;"
            + "setStaleTime(MAX) = -3; restart(true) = 1; reconnect(0) = 0; staleTimer(0) = 50; tick(49) = 0;"
            + "staleTimer(0) = 1; tick(1) = 0; staleTimer(0) = 0; setStaleTime(50) = 50");
        everyTime("setStaleTime", 20);
    }

    private static void deferralTimes() {
        String words = "Sets the deferral time. .. ticks: 1 to 50";
        Script.play(words, "addPeer(true) = 0; setDeferralTime(1) = 15; setDeferralTime(0) = -3;"
            + "setDeferralTime(-1) = -3; setDeferralTime(MIN) = -3; restart(true) = 1; deferralTimer() = 1;"
            + "isDeferring() = 1; tick(1) = 0; isDeferring() = 0");
        Script.play(words, "addPeer(true) = 0; setDeferralTime(50) = 15; setDeferralTime(51) = -3;"
            + "setDeferralTime(MAX) = -3; restart(true) = 1; reconnect(0) = 0; deferralTimer() = 50; tick(49) = 0;"
            + "isDeferring() = 1; deferralTimer() = 1; tick(1) = 0; isDeferring() = 0; setDeferralTime(50) = 50");
        everyTime("setDeferralTime", 15);
    }

    private static void everyTime(String setter, int first) {
        GracefulRestart x = new GracefulRestart();
        int previous = first;
        for (int ticks = -60; ticks <= 120; ticks++) {
            boolean allowed = ticks >= 1 && ticks <= 50;
            String call = setter + "(" + ticks + ")";
            Checks.due(call, Script.ask(x, call), allowed ? previous : -3);
            previous = allowed ? ticks : previous;
        }
    }

    private static void ticks() {
        String words = "the number of ticks, 1 to 100";
        Script.play(words, "tick(1) = 0; tick(100) = 0; tick(0) = -3; tick(-1) = -3; tick(101) = -3; tick(-100) = -3;"
            + "tick(MIN) = -3; tick(MAX) = -3");
        Script.play(words, "addPeer(true); restart(true); tick(1) = 0; restartTimer(0) = 9; deferralTimer() = 14;"
            + "tick(0) = -3; tick(101) = -3; restartTimer(0) = 9; deferralTimer() = 14; tick(100) = 0;"
            + "sessionState(0) = 2");
        for (int ticks = -150; ticks <= 250; ticks++) {
            GracefulRestart x = Script.play(words, "addPeer(true); addPeer(true); announce(0, 0, 0, 1);"
                + "setRestartTime(50); restart(true)");
            boolean allowed = ticks >= 1 && ticks <= 100;
            Checks.due("tick(" + ticks + ")", x.tick(ticks), allowed ? (ticks >= 50 ? 1 : 0) : -3);
            Checks.due("restartTimer(1)", x.restartTimer(1), allowed ? Math.max(50 - ticks, 0) : 50);
        }
    }

    private static void lengths() {
        String words = "the path length, 1 to 20";
        Script.play(words, "addPeer(true); addPeer(true); announce(0, 0, 0, 1) = 0; learnedLength(1, 0, 0) = 2;"
            + "announce(0, 0, 0, 0) = -3; announce(0, 0, 0, -1) = -3; announce(0, 0, 0, MIN) = -3;"
            + "learnedLength(1, 0, 0) = 2; withdraw(0, 0, 0) = 1");
        Script.play(words, "addPeer(true); addPeer(true); announce(0, 0, 0, 20) = 0; learnedLength(1, 0, 0) = 21;"
            + "announce(0, 0, 0, 21) = -3; announce(0, 0, 0, MAX) = -3; learnedLength(1, 0, 0) = 21;"
            + "withdraw(0, 0, 0) = 20");
        GracefulRestart x = Checks.withPeers("gg");
        int previous = 0;
        for (int length = -30; length <= 60; length++) {
            boolean allowed = length >= 1 && length <= 20;
            Checks.due("announce(0, 1, 7, " + length + ")", x.announce(0, 1, 7, length), allowed ? previous : -3);
            previous = allowed ? length : previous;
            Checks.due("learnedLength(1, 1, 7)", x.learnedLength(1, 1, 7), previous == 0 ? -6 : previous + 1);
        }
    }

    private static void peerNumbers(int peers) {
        Checks.sentence("NO_SUCH_PEER: The peer does not exist.");
        int[] numbers = {-1, 0, 1, 2, 3, 4, 5, 6, 31, 32, 256, -5, MIN, MAX, MIN + 1, MAX - 1, 1 << 16, 1 << 31};
        for (String[] method : METHODS) {
            if (method[1].charAt(0) != 'P') {
                continue;
            }
            for (int number : numbers) {
                GracefulRestart x = Checks.withPeers("gngng".substring(0, peers));
                String call = method[0] + rest(method[1], number);
                boolean exists = number >= 0 && number < peers;
                Checks.holds(call + " with " + peers + " peers", (Script.ask(x, call) == -1) != exists);
            }
        }
    }

    /** The arguments of a call for a peer, all but the peer in their ranges. */
    private static String rest(String kinds, int peer) {
        StringBuilder text = new StringBuilder("(").append(peer);
        for (int i = 1; i < kinds.length(); i++) {
            text.append(", ").append(kinds.charAt(i) == 'L' ? 9 : 1);
        }
        return text.append(')').toString();
    }

    private static void tables() {
        Checks.sentence("table: 0 or 1");
        for (int table : new int[] {-1, 0, 1, 2, 3, 8, 16, 32, -2, MIN, MAX, MIN + 1, 1 << 29, 1 << 30}) {
            for (int prefix : new int[] {0, 7}) {
                onePlace(table, prefix, table == 0 || table == 1);
            }
            boolean exists = table == 0 || table == 1;
            GracefulRestart x = Checks.withPeers("gg");
            Checks.due("endOfTable(1, " + table + ")", x.endOfTable(1, table), exists ? 1 : -2);
        }
    }

    private static void prefixes() {
        Checks.sentence("prefix: 0 to 7");
        for (int prefix : new int[] {-1, 0, 1, 2, 3, 4, 5, 6, 7, 8, 9, 15, 16, -8, MIN, MAX, MIN + 7, MAX - 7, MAX - 8}) {
            for (int table : new int[] {0, 1}) {
                onePlace(table, prefix, prefix >= 0 && prefix <= 7);
            }
        }
    }

    /** Every method with a table and a prefix, at one place. */
    private static void onePlace(int table, int prefix, boolean exists) {
        String place = table + ", " + prefix;
        if (!exists) {
            Script.go(Checks.withPeers("gg"), "announce(0, " + place + ", 4) = -2; withdraw(0, " + place + ") = -2;"
                + "nextHop(" + place + ") = -2; isEntryStale(" + place + ") = -2; learnedLength(1, " + place + ") = -2;"
                + "isLearnedStale(1, " + place + ") = -2; forward(1, " + place + ") = -2; reachableCount(1) = 0");
            return;
        }
        Script.go(Checks.withPeers("gg"), "nextHop(" + place + ") = -6; isEntryStale(" + place + ") = -6;"
            + "learnedLength(1, " + place + ") = -6; isLearnedStale(1, " + place + ") = -6;"
            + "forward(1, " + place + ") = -6; withdraw(0, " + place + ") = -6; announce(0, " + place + ", 4) = 0;"
            + "nextHop(" + place + ") = 0; isEntryStale(" + place + ") = 0; learnedLength(1, " + place + ") = 5;"
            + "isLearnedStale(1, " + place + ") = 0; forward(1, " + place + ") = 0; reachableCount(1) = 1;"
            + "withdraw(0, " + place + ") = 4; nextHop(" + place + ") = -6");
    }

    private static void ordersOfErrors() {
        Checks.sentence("Each method lists its errors in the order in which they are checked.");
        for (String[] method : METHODS) {
            combine(method[0], method[1], "", 0);
        }
    }

    /** All combinations of values at the edges of the ranges of one method; the first wrong kind is told. */
    private static void combine(String name, String kinds, String arguments, int error) {
        int next = arguments.isEmpty() ? 0 : arguments.split(",").length;
        if (next == kinds.length()) {
            GracefulRestart x = Checks.withPeers("ggg");
            int answer = Script.ask(x, name + "(" + arguments + ")");
            boolean refused = answer <= -1 && answer >= -3;
            Checks.holds(name + "(" + arguments + ") answered " + answer + ", the first error is " + error,
                error == 0 ? !refused : answer == error);
            return;
        }
        int last = lastOf(kinds.charAt(next));
        int first = kinds.charAt(next) == 'L' ? 1 : 0;
        for (int value : new int[] {MIN, first - 1, first, last, last + 1, MAX}) {
            boolean wrong = value < first || value > last;
            String more = arguments.isEmpty() ? "" + value : arguments + "," + value;
            combine(name, kinds, more, error != 0 || !wrong ? error : errorOf(kinds.charAt(next)));
        }
    }

    private static int lastOf(char kind) {
        switch (kind) {
            case 'P': return 2;
            case 'T': return 1;
            case 'X': return 7;
            default: return 20;
        }
    }

    private static int errorOf(char kind) {
        switch (kind) {
            case 'P': return -1;
            case 'L': return -3;
            default: return -2;
        }
    }

    /** The errors that depend on the state come last. */
    private static void namedErrorsInOrder() {
        Script.play("announce: NO_SUCH_PEER; NO_SUCH_ROUTE; BAD_VALUE", "announce(0, 2, 8, 21) = -1; addPeer(false) = 0;"
            + "announce(1, 2, 8, 21) = -1; announce(0, 2, 8, 21) = -2; announce(0, 2, 7, 21) = -2;"
            + "announce(0, 1, 8, 21) = -2; announce(0, 1, 7, 21) = -3; announce(0, 1, 7, 20) = 0");
        Script.play("withdraw: NO_SUCH_PEER; NO_SUCH_ROUTE; NONE if the peer has no such offer",
            "withdraw(0, 2, 8) = -1; addPeer(false) = 0; withdraw(1, 0, 0) = -1; withdraw(0, 2, 0) = -2;"
            + "withdraw(0, 0, 8) = -2; withdraw(0, 0, 0) = -6");
        Script.play("reconnect: NO_SUCH_PEER; WRONG_STATE if the session is UP",
            "reconnect(0) = -1; addPeer(true) = 0; reconnect(1) = -1; reconnect(0) = -4");
        Script.play("disconnect: NO_SUCH_PEER; WRONG_STATE if the session is DOWN", "disconnect(0) = -1;"
            + "addPeer(true) = 0; disconnect(1) = -1; disconnect(0) = 0; disconnect(0) = -4; disconnect(1) = -1");
        Script.play("endOfTable: NO_SUCH_PEER; NO_SUCH_ROUTE if the table does not exist; WRONG_STATE if the session is"
            + " not UP", "endOfTable(0, 2) = -1; addPeer(true) = 0; addPeer(false) = 1; restart(true) = 2;"
            + "endOfTable(2, 2) = -1; endOfTable(0, 2) = -2; endOfTable(0, -1) = -2; endOfTable(1, 2) = -2;"
            + "endOfTable(0, 1) = -4; endOfTable(1, 0) = -4");
        Script.play("nextHop: NO_SUCH_ROUTE; NONE if there is no entry", "nextHop(2, 0) = -2; nextHop(1, 7) = -6");
        Script.play("isEntryStale: NO_SUCH_ROUTE; NONE if there is no entry",
            "isEntryStale(0, 8) = -2; isEntryStale(0, 7) = -6");
        for (String name : new String[] {"learnedLength", "isLearnedStale", "forward"}) {
            Script.play(name + ": NO_SUCH_PEER; NO_SUCH_ROUTE; NONE", name + "(0, 2, 8) = -1; addPeer(true) = 0;"
                + name + "(1, 0, 0) = -1; " + name + "(0, 2, 0) = -2; " + name + "(0, 0, 8) = -2; " + name + "(0, 0, 0) = -6");
        }
        Script.play("forward: NONE if the peer has no learned route; DROPPED if the forwarding table has no entry",
            "addPeer(true) = 0; addPeer(true) = 1; announce(0, 0, 0, 1) = 0; restart(false) = 2; forward(2, 0, 0) = -1;"
            + "forward(1, 0, 8) = -2; forward(0, 0, 0) = -6; forward(1, 0, 1) = -6; forward(1, 0, 0) = -7");
    }
}
