/**
 * One router of a path-vector protocol that restarts its control plane, with the peers that help it.
 * Every promise of the document is one public method; errors are answered as negative constants.
 */
public final class GracefulRestart {
    public static final int NO_SUCH_PEER = -1;
    public static final int NO_SUCH_ROUTE = -2;
    public static final int BAD_VALUE = -3;
    public static final int WRONG_STATE = -4;
    public static final int FULL = -5;
    public static final int NONE = -6;
    public static final int DROPPED = -7;
    public static final int LOOPED = -8;
    public static final int UP = 0;
    public static final int HELPING = 1;
    public static final int DOWN = 2;

    private static final int MAX_PEERS = 5;
    private static final int TABLES = 2;
    private static final int PREFIXES = 8;
    private static final int ROUTES = TABLES * PREFIXES;
    private static final int ALL_MARKS = (1 << TABLES) - 1;
    private static final int MAX_LENGTH = 20;
    private static final int MAX_TIME = 50;
    private static final int MAX_TICKS = 100;

    /** The peers by number; null behind the last one that was added. */
    private final Peer[] peers;
    /** The forwarding table: the next hop of each route, NONE where there is no entry. */
    private final int[] hops;
    private final boolean[] staleHops;
    private int peerCount;
    private int restartTime;
    private int staleTime;
    private int deferralTime;
    private boolean deferring;
    private int deferralLeft;

    public GracefulRestart() {
        peers = new Peer[MAX_PEERS];
        hops = new int[ROUTES];
        staleHops = new boolean[ROUTES];
        for (int route = 0; route < ROUTES; route++) {
            hops[route] = NONE;
        }
        peerCount = 0;
        restartTime = 10;
        staleTime = 20;
        deferralTime = 15;
        deferring = false;
        deferralLeft = 0;
    }

    // ---- settings

    public int setRestartTime(int ticks) {
        if (!isTime(ticks)) {
            return BAD_VALUE;
        }
        int previous = restartTime;
        restartTime = ticks;
        return previous;
    }

    public int setStaleTime(int ticks) {
        if (!isTime(ticks)) {
            return BAD_VALUE;
        }
        int previous = staleTime;
        staleTime = ticks;
        return previous;
    }

    public int setDeferralTime(int ticks) {
        if (!isTime(ticks)) {
            return BAD_VALUE;
        }
        int previous = deferralTime;
        deferralTime = ticks;
        return previous;
    }

    // ---- events

    public int addPeer(boolean graceful) {
        if (peerCount < 0 || peerCount >= MAX_PEERS) {
            return FULL;
        }
        int number = peerCount;
        peers[number] = new Peer(graceful);
        peerCount = number + 1;
        if (!deferring) {
            // The offers are the same as before, so this changes nothing but what the new peer learns.
            selectAll();
        }
        return number;
    }

    public int announce(int peer, int table, int prefix, int length) {
        Peer offering = findPeer(peer);
        if (offering == null) {
            return NO_SUCH_PEER;
        }
        int route = routeOf(table, prefix);
        if (route < 0) {
            return NO_SUCH_ROUTE;
        }
        if (length < 1 || length > MAX_LENGTH) {
            return BAD_VALUE;
        }
        int replaced = offering.offers[route];
        offering.offers[route] = length;
        selectAfterOffer(offering, route);
        return replaced;
    }

    public int withdraw(int peer, int table, int prefix) {
        Peer offering = findPeer(peer);
        if (offering == null) {
            return NO_SUCH_PEER;
        }
        int route = routeOf(table, prefix);
        if (route < 0) {
            return NO_SUCH_ROUTE;
        }
        int withdrawn = offering.offers[route];
        if (withdrawn == 0) {
            return NONE;
        }
        offering.offers[route] = 0;
        selectAfterOffer(offering, route);
        return withdrawn;
    }

    public int restart(boolean preserve) {
        int lost = 0;
        for (Peer peer : peers) {
            if (peer != null) {
                peer.marks = 0;
                if (peer.state == UP) {
                    peer.loseRouter(restartTime);
                    lost++;
                }
            }
        }
        if (preserve) {
            makeEntriesStale();
        } else {
            removeEntries();
        }
        deferring = true;
        deferralLeft = deferralTime;
        checkDeferral();
        return lost;
    }

    public int reconnect(int peer) {
        Peer returning = findPeer(peer);
        if (returning == null) {
            return NO_SUCH_PEER;
        }
        if (returning.state == UP) {
            return WRONG_STATE;
        }
        returning.meetRouter(staleTime);
        if (!deferring) {
            selectAll();
            returning.endResync();
        }
        checkDeferral();
        return returning.countOffers();
    }

    public int disconnect(int peer) {
        Peer leaving = findPeer(peer);
        if (leaving == null) {
            return NO_SUCH_PEER;
        }
        if (leaving.state == DOWN) {
            return WRONG_STATE;
        }
        int removed = leaving.goDown();
        if (!deferring) {
            selectAll();
        }
        // The router may have waited for a helper that leaves, too: its session was lost before.
        checkDeferral();
        return removed;
    }

    public int endOfTable(int peer, int table) {
        Peer marking = findPeer(peer);
        if (marking == null) {
            return NO_SUCH_PEER;
        }
        if (table < 0 || table >= TABLES) {
            return NO_SUCH_ROUTE;
        }
        if (marking.state != UP) {
            return WRONG_STATE;
        }
        int mark = 1 << table;
        int answer = (marking.marks & mark) == 0 ? 1 : 0;
        marking.marks |= mark;
        checkDeferral();
        return answer;
    }

    public int tick(int ticks) {
        if (ticks < 1 || ticks > MAX_TICKS) {
            return BAD_VALUE;
        }
        int removed = 0;
        for (int i = 0; i < ticks; i++) {
            removed += countDownPeers();
            if (deferralLeft > 0) {
                deferralLeft--;
            }
            checkDeferral();
        }
        return removed;
    }

    // ---- the router

    public int isDeferring() {
        return deferring ? 1 : 0;
    }

    public int deferralTimer() {
        return deferralLeft;
    }

    public int waitingPeers() {
        if (!deferring) {
            return 0;
        }
        int waiting = 0;
        for (int number = 0; number < peers.length; number++) {
            Peer peer = peers[number];
            if (peer != null && peer.isAwaited()) {
                waiting |= 1 << number;
            }
        }
        return waiting;
    }

    public int nextHop(int table, int prefix) {
        int route = routeOf(table, prefix);
        if (route < 0) {
            return NO_SUCH_ROUTE;
        }
        return hops[route];
    }

    public int isEntryStale(int table, int prefix) {
        int route = routeOf(table, prefix);
        if (route < 0) {
            return NO_SUCH_ROUTE;
        }
        if (hops[route] == NONE) {
            return NONE;
        }
        return staleHops[route] ? 1 : 0;
    }

    // ---- peers

    public int sessionState(int peer) {
        Peer asked = findPeer(peer);
        return asked == null ? NO_SUCH_PEER : asked.state;
    }

    public int restartTimer(int peer) {
        Peer asked = findPeer(peer);
        return asked == null ? NO_SUCH_PEER : asked.restartLeft;
    }

    public int staleTimer(int peer) {
        Peer asked = findPeer(peer);
        return asked == null ? NO_SUCH_PEER : asked.staleLeft;
    }

    public int learnedLength(int peer, int table, int prefix) {
        Peer asked = findPeer(peer);
        if (asked == null) {
            return NO_SUCH_PEER;
        }
        int route = routeOf(table, prefix);
        if (route < 0) {
            return NO_SUCH_ROUTE;
        }
        int length = asked.learned[route];
        return length == 0 ? NONE : length;
    }

    public int isLearnedStale(int peer, int table, int prefix) {
        Peer asked = findPeer(peer);
        if (asked == null) {
            return NO_SUCH_PEER;
        }
        int route = routeOf(table, prefix);
        if (route < 0) {
            return NO_SUCH_ROUTE;
        }
        if (asked.learned[route] == 0) {
            return NONE;
        }
        return asked.staleLearned[route] ? 1 : 0;
    }

    // ---- packets

    public int forward(int peer, int table, int prefix) {
        Peer sending = findPeer(peer);
        if (sending == null) {
            return NO_SUCH_PEER;
        }
        int route = routeOf(table, prefix);
        if (route < 0) {
            return NO_SUCH_ROUTE;
        }
        return followPacket(sending, peer, route);
    }

    public int reachableCount(int peer) {
        Peer sending = findPeer(peer);
        if (sending == null) {
            return NO_SUCH_PEER;
        }
        int reachable = 0;
        for (int route = 0; route < ROUTES; route++) {
            // Only the number of a peer is 0 or more: every way to fail is negative.
            if (followPacket(sending, peer, route) >= 0) {
                reachable++;
            }
        }
        return reachable;
    }

    public int loopCount() {
        int loops = 0;
        for (int number = 0; number < peers.length; number++) {
            Peer sending = peers[number];
            if (sending != null) {
                loops += countLoops(sending, number);
            }
        }
        return loops;
    }

    // ---- what the promises share

    private static boolean isTime(int ticks) {
        return ticks >= 1 && ticks <= MAX_TIME;
    }

    /** The place of a route in every row of routes, -1 if there is no such table or prefix. */
    private static int routeOf(int table, int prefix) {
        if (table < 0 || table >= TABLES || prefix < 0 || prefix >= PREFIXES) {
            return -1;
        }
        return table * PREFIXES + prefix;
    }

    private Peer findPeer(int number) {
        if (number < 0 || number >= peers.length) {
            return null;
        }
        return peers[number];
    }

    private void selectAfterOffer(Peer offering, int route) {
        if (!deferring && offering.state == UP) {
            select(route);
        }
    }

    private void selectAll() {
        for (int route = 0; route < ROUTES; route++) {
            select(route);
        }
    }

    private void select(int route) {
        int hop = NONE;
        int shortest = 0;
        for (int number = 0; number < peers.length; number++) {
            Peer peer = peers[number];
            int length = peer == null ? 0 : peer.knownOffer(route);
            // Only a shorter path replaces a candidate, so the lowest number wins among equals.
            if (length > 0 && (hop == NONE || length < shortest)) {
                hop = number;
                shortest = length;
            }
        }
        hops[route] = hop;
        staleHops[route] = false;
        advertise(route, hop, shortest + 1);
    }

    private void advertise(int route, int hop, int length) {
        for (int number = 0; number < peers.length; number++) {
            Peer peer = peers[number];
            if (peer != null && peer.state == UP) {
                if (hop == NONE || hop == number) {
                    peer.hearNothing(route);
                } else {
                    peer.learn(route, length);
                }
            }
        }
    }

    private void makeEntriesStale() {
        for (int route = 0; route < ROUTES; route++) {
            staleHops[route] = true;
        }
    }

    private void removeEntries() {
        for (int route = 0; route < ROUTES; route++) {
            hops[route] = NONE;
        }
    }

    private void checkDeferral() {
        if (deferring && (deferralLeft == 0 || waitingPeers() == 0)) {
            endDeferral();
        }
    }

    private void endDeferral() {
        deferring = false;
        deferralLeft = 0;
        selectAll();
        for (Peer peer : peers) {
            if (peer != null && peer.state == UP) {
                peer.endResync();
            }
        }
    }

    private int countDownPeers() {
        int removed = 0;
        for (Peer peer : peers) {
            if (peer != null) {
                removed += peer.countDown();
            }
        }
        return removed;
    }

    private int followPacket(Peer sending, int number, int route) {
        if (sending.learned[route] == 0) {
            return NONE;
        }
        int hop = hops[route];
        if (hop == NONE) {
            return DROPPED;
        }
        return hop == number ? LOOPED : hop;
    }

    private int countLoops(Peer sending, int number) {
        int loops = 0;
        for (int route = 0; route < ROUTES; route++) {
            if (followPacket(sending, number, route) == LOOPED) {
                loops++;
            }
        }
        return loops;
    }

    /** A neighbour of the router: what it offers, and what it learned from the router. */
    private static final class Peer {
        private final boolean graceful;
        /** The path length of each offer, 0 where there is none. */
        private final int[] offers;
        /** The path length of each learned route, 0 where there is none. */
        private final int[] learned;
        private final boolean[] staleLearned;
        private int state;
        private int restartLeft;
        private int staleLeft;
        /** Bit t stands for the end of table t. */
        private int marks;

        private Peer(boolean graceful) {
            this.graceful = graceful;
            offers = new int[ROUTES];
            learned = new int[ROUTES];
            staleLearned = new boolean[ROUTES];
            state = UP;
            restartLeft = 0;
            staleLeft = 0;
            marks = 0;
        }

        /** The path length of an offer as the router sees it: 0 while the session is not up. */
        private int knownOffer(int route) {
            return state == UP ? offers[route] : 0;
        }

        private int countOffers() {
            int count = 0;
            for (int length : offers) {
                if (length > 0) {
                    count++;
                }
            }
            return count;
        }

        private boolean isAwaited() {
            return graceful && state != DOWN && marks != ALL_MARKS;
        }

        private void learn(int route, int length) {
            learned[route] = length;
            staleLearned[route] = false;
        }

        private void hearNothing(int route) {
            if (!staleLearned[route]) {
                learned[route] = 0;
            }
        }

        private void loseRouter(int restartTime) {
            if (!graceful) {
                goDown();
                return;
            }
            state = HELPING;
            removeStale();
            for (int route = 0; route < ROUTES; route++) {
                staleLearned[route] = learned[route] != 0;
            }
            staleLeft = 0;
            restartLeft = restartTime;
        }

        private void meetRouter(int staleTime) {
            if (state == HELPING) {
                restartLeft = 0;
                staleLeft = staleTime;
            }
            state = UP;
        }

        /** The router has sent its whole table: what it did not send again is gone. */
        private void endResync() {
            removeStale();
            staleLeft = 0;
        }

        private int goDown() {
            state = DOWN;
            restartLeft = 0;
            staleLeft = 0;
            return removeLearned();
        }

        private int countDown() {
            int removed = 0;
            if (restartLeft > 0) {
                restartLeft--;
                if (restartLeft == 0) {
                    removed += goDown();
                }
            }
            if (staleLeft > 0) {
                staleLeft--;
                if (staleLeft == 0) {
                    removed += removeStale();
                }
            }
            return removed;
        }

        private int removeLearned() {
            int removed = 0;
            for (int route = 0; route < ROUTES; route++) {
                if (learned[route] != 0) {
                    removed++;
                }
                learned[route] = 0;
                staleLearned[route] = false;
            }
            return removed;
        }

        private int removeStale() {
            int removed = 0;
            for (int route = 0; route < ROUTES; route++) {
                if (staleLearned[route]) {
                    learned[route] = 0;
                    staleLearned[route] = false;
                    removed++;
                }
            }
            return removed;
        }
    }
}
