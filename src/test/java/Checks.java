/** Counts the answers that are not due; every test of the project ends with finish(). */
final class Checks {
    private static int wrong = 0;
    private static int asked = 0;
    private static String sentence = "";

    private Checks() {
    }

    /** The words of the document (see Document.says) that the checks from here on hold to; printed with a fault. */
    static void sentence(String words) {
        sentence = "";
        holds("the document says: " + words, Document.says(words));
        sentence = words;
    }

    static void due(String call, long got, long want) {
        asked++;
        if (got != want) {
            tell(call + " answered " + got + ", due is " + want);
        }
    }

    static void holds(String what, boolean truth) {
        asked++;
        if (!truth) {
            tell("does not hold: " + what);
        }
    }

    private static void tell(String fault) {
        wrong++;
        System.out.println("  " + fault + (sentence.isEmpty() ? "" : " [" + sentence + "]"));
    }

    static void finish() {
        if (asked == 0) {
            System.out.println("  nothing was asked");
        }
        System.exit(wrong == 0 && asked > 0 ? 0 : 1);
    }

    /** All that the public questions tell of an object, so that two moments can be compared. */
    static String snapshot(GracefulRestart x) {
        StringBuilder all = new StringBuilder();
        all.append(x.isDeferring()).append(' ').append(x.deferralTimer()).append(' ');
        all.append(x.waitingPeers()).append(' ').append(x.loopCount());
        for (int table = 0; table < 2; table++) {
            for (int prefix = 0; prefix < 8; prefix++) {
                all.append(' ').append(x.nextHop(table, prefix)).append(',').append(x.isEntryStale(table, prefix));
            }
        }
        for (int peer = 0; peer < 5; peer++) {
            all.append('\n').append(x.sessionState(peer)).append(' ').append(x.restartTimer(peer));
            all.append(' ').append(x.staleTimer(peer)).append(' ').append(x.reachableCount(peer));
            for (int table = 0; table < 2; table++) {
                for (int prefix = 0; prefix < 8; prefix++) {
                    all.append(' ').append(x.learnedLength(peer, table, prefix));
                    all.append(',').append(x.isLearnedStale(peer, table, prefix));
                    all.append(',').append(x.forward(peer, table, prefix));
                }
            }
        }
        return all.toString();
    }

    /** An object with the given peers: 'g' is a graceful one, 'n' one that is not. */
    static GracefulRestart withPeers(String kinds) {
        GracefulRestart x = new GracefulRestart();
        for (int i = 0; i < kinds.length(); i++) {
            x.addPeer(kinds.charAt(i) == 'g');
        }
        return x;
    }

    static void markBoth(GracefulRestart x, int peer) {
        x.endOfTable(peer, 0);
        x.endOfTable(peer, 1);
    }
}
