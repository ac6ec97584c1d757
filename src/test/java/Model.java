import java.util.ArrayList;
import java.util.List;
import java.util.Map;
import java.util.Set;
import java.util.TreeMap;
import java.util.TreeSet;

/**
 * The document once more, sentence by sentence and held in maps, to compare the class with. It takes no short way:
 * a stale route that "stays" does stay, and only then is removed.
 */
public final class Model {
    /** A learned route, or an entry of the forwarding table: what it holds, and whether it is stale. */
    private static final class Held {
        private final int value;
        private boolean stale = false;

        private Held(int value) {
            this.value = value;
        }
    }

    private static final class Neighbour {
        private final boolean graceful;
        private final Map<String, Integer> offers = new TreeMap<>();
        private final Map<String, Held> learned = new TreeMap<>();
        private final Set<Integer> ended = new TreeSet<>();
        private String session = "UP";
        private int restartTimer = 0;
        private int staleTimer = 0;

        private Neighbour(boolean graceful) {
            this.graceful = graceful;
        }

        private boolean up() {
            return session.equals("UP");
        }

        private int removeAll() {
            int count = learned.size();
            learned.clear();
            return count;
        }

        private int removeStale() {
            int count = learned.size();
            learned.values().removeIf(route -> route.stale);
            return count - learned.size();
        }
    }

    private static final List<String> PLACES = places();
    private final List<Neighbour> peers = new ArrayList<>();
    private final Map<String, Held> forwarding = new TreeMap<>();
    private int restartTime = 10;
    private int staleTime = 20;
    private int deferralTime = 15;
    private boolean deferring = false;
    private int deferralTimer = 0;

    private static List<String> places() {
        List<String> all = new ArrayList<>();
        for (int table = 0; table <= 1; table++) {
            for (int prefix = 0; prefix <= 7; prefix++) {
                all.add(table + "/" + prefix);
            }
        }
        return all;
    }

    private boolean noPeer(int peer) {
        return peer < 0 || peer > peers.size() - 1;
    }

    private static boolean noPlace(int table, int prefix) {
        return !PLACES.contains(table + "/" + prefix);
    }

    // ---- the rules of the description

    private void selectAll() {
        PLACES.forEach(this::selectAt);
    }

    private void selectAt(String place) {
        int hop = -1;
        for (int peer = 0; peer < peers.size(); peer++) {
            Integer offer = peers.get(peer).up() ? peers.get(peer).offers.get(place) : null;
            if (offer != null && (hop == -1 || offer < peers.get(hop).offers.get(place))) {
                hop = peer;
            }
        }
        forwarding.remove(place);
        if (hop != -1) {
            forwarding.put(place, new Held(hop));
        }
        for (int peer = 0; peer < peers.size(); peer++) {
            if (peers.get(peer).up()) {
                update(peers.get(peer), place, hop == peer || hop == -1 ? 0 : peers.get(hop).offers.get(place) + 1);
            }
        }
    }

    private static void update(Neighbour peer, String place, int length) {
        if (length > 0) {
            peer.learned.put(place, new Held(length));
        } else if (peer.learned.containsKey(place) && !peer.learned.get(place).stale) {
            peer.learned.remove(place);
        }
    }

    private void endOfTheTable(Neighbour peer) {
        peer.removeStale();
        peer.staleTimer = 0;
    }

    private void checkTheEnd() {
        if (deferring && (waitingPeers() == 0 || deferralTimer == 0)) {
            deferring = false;
            deferralTimer = 0;
            selectAll();
            peers.stream().filter(Neighbour::up).forEach(this::endOfTheTable);
        }
    }

    // ---- the face

    public int setRestartTime(int ticks) {
        int previous = restartTime;
        if (ticks < 1 || ticks > 50) {
            return -3;
        }
        restartTime = ticks;
        return previous;
    }

    public int setStaleTime(int ticks) {
        int previous = staleTime;
        if (ticks < 1 || ticks > 50) {
            return -3;
        }
        staleTime = ticks;
        return previous;
    }

    public int setDeferralTime(int ticks) {
        int previous = deferralTime;
        if (ticks < 1 || ticks > 50) {
            return -3;
        }
        deferralTime = ticks;
        return previous;
    }

    public int addPeer(boolean graceful) {
        if (peers.size() == 5) {
            return -5;
        }
        Neighbour peer = new Neighbour(graceful);
        peers.add(peer);
        if (!deferring) {
            forwarding.forEach((place, entry) ->
                peer.learned.put(place, new Held(peers.get(entry.value).offers.get(place) + 1)));
        }
        return peers.size() - 1;
    }

    public int announce(int peer, int table, int prefix, int length) {
        if (noPeer(peer)) {
            return -1;
        }
        if (noPlace(table, prefix)) {
            return -2;
        }
        if (length < 1 || length > 20) {
            return -3;
        }
        Integer replaced = peers.get(peer).offers.put(table + "/" + prefix, length);
        if (!deferring && peers.get(peer).up()) {
            selectAt(table + "/" + prefix);
        }
        return replaced == null ? 0 : replaced;
    }

    public int withdraw(int peer, int table, int prefix) {
        if (noPeer(peer)) {
            return -1;
        }
        if (noPlace(table, prefix)) {
            return -2;
        }
        Integer withdrawn = peers.get(peer).offers.remove(table + "/" + prefix);
        if (withdrawn != null && !deferring && peers.get(peer).up()) {
            selectAt(table + "/" + prefix);
        }
        return withdrawn == null ? -6 : withdrawn;
    }

    public int restart(boolean preserve) {
        int lost = 0;
        for (Neighbour peer : peers) {
            peer.ended.clear();
            if (!peer.up()) {
                continue;
            }
            lost++;
            if (peer.graceful) {
                peer.session = "HELPING";
                peer.removeStale();
                peer.learned.values().forEach(route -> route.stale = true);
                peer.staleTimer = 0;
                peer.restartTimer = restartTime;
            } else {
                peer.session = "DOWN";
                peer.removeAll();
            }
        }
        if (preserve) {
            forwarding.values().forEach(entry -> entry.stale = true);
        } else {
            forwarding.clear();
        }
        deferring = true;
        deferralTimer = deferralTime;
        checkTheEnd();
        return lost;
    }

    public int reconnect(int peer) {
        if (noPeer(peer)) {
            return -1;
        }
        Neighbour back = peers.get(peer);
        if (back.up()) {
            return -4;
        }
        if (back.session.equals("HELPING")) {
            back.restartTimer = 0;
            back.staleTimer = staleTime;
        }
        back.session = "UP";
        if (!deferring) {
            selectAll();
            endOfTheTable(back);
        }
        checkTheEnd();
        return back.offers.size();
    }

    public int disconnect(int peer) {
        if (noPeer(peer)) {
            return -1;
        }
        Neighbour gone = peers.get(peer);
        if (gone.session.equals("DOWN")) {
            return -4;
        }
        boolean known = gone.up();
        gone.session = "DOWN";
        int removed = gone.removeAll();
        gone.restartTimer = 0;
        gone.staleTimer = 0;
        if (known && !deferring) {
            gone.offers.keySet().forEach(this::selectAt);
        }
        checkTheEnd();
        return removed;
    }

    public int endOfTable(int peer, int table) {
        if (noPeer(peer)) {
            return -1;
        }
        if (noPlace(table, 0)) {
            return -2;
        }
        if (!peers.get(peer).up()) {
            return -4;
        }
        boolean fresh = peers.get(peer).ended.add(table);
        checkTheEnd();
        return fresh ? 1 : 0;
    }

    public int tick(int ticks) {
        if (ticks < 1 || ticks > 100) {
            return -3;
        }
        int removed = 0;
        for (int left = ticks; left > 0; left--) {
            for (Neighbour peer : peers) {
                if (peer.restartTimer > 0 && --peer.restartTimer == 0) {
                    peer.session = "DOWN";
                    removed += peer.removeAll();
                }
                if (peer.staleTimer > 0 && --peer.staleTimer == 0) {
                    removed += peer.removeStale();
                }
            }
            deferralTimer = Math.max(0, deferralTimer - 1);
            checkTheEnd();
        }
        return removed;
    }

    public int isDeferring() {
        return deferring ? 1 : 0;
    }

    public int deferralTimer() {
        return deferralTimer;
    }

    public int waitingPeers() {
        int set = 0;
        for (int peer = 0; deferring && peer < peers.size(); peer++) {
            Neighbour one = peers.get(peer);
            if (one.graceful && !one.session.equals("DOWN") && one.ended.size() < 2) {
                set += 1 << peer;
            }
        }
        return set;
    }

    public int nextHop(int table, int prefix) {
        if (noPlace(table, prefix)) {
            return -2;
        }
        Held entry = forwarding.get(table + "/" + prefix);
        return entry == null ? -6 : entry.value;
    }

    public int isEntryStale(int table, int prefix) {
        if (noPlace(table, prefix)) {
            return -2;
        }
        Held entry = forwarding.get(table + "/" + prefix);
        return entry == null ? -6 : entry.stale ? 1 : 0;
    }

    public int sessionState(int peer) {
        return noPeer(peer) ? -1 : List.of("UP", "HELPING", "DOWN").indexOf(peers.get(peer).session);
    }

    public int restartTimer(int peer) {
        return noPeer(peer) ? -1 : peers.get(peer).restartTimer;
    }

    public int staleTimer(int peer) {
        return noPeer(peer) ? -1 : peers.get(peer).staleTimer;
    }

    public int learnedLength(int peer, int table, int prefix) {
        if (noPeer(peer)) {
            return -1;
        }
        if (noPlace(table, prefix)) {
            return -2;
        }
        Held route = peers.get(peer).learned.get(table + "/" + prefix);
        return route == null ? -6 : route.value;
    }

    public int isLearnedStale(int peer, int table, int prefix) {
        if (noPeer(peer)) {
            return -1;
        }
        if (noPlace(table, prefix)) {
            return -2;
        }
        Held route = peers.get(peer).learned.get(table + "/" + prefix);
        return route == null ? -6 : route.stale ? 1 : 0;
    }

    public int forward(int peer, int table, int prefix) {
        if (learnedLength(peer, table, prefix) < 0) {
            return learnedLength(peer, table, prefix);
        }
        int hop = nextHop(table, prefix);
        return hop == -6 ? -7 : hop == peer ? -8 : hop;
    }

    public int reachableCount(int peer) {
        return noPeer(peer) ? -1 : count(peer, 0, 4);
    }

    public int loopCount() {
        int loops = 0;
        for (int peer = 0; peer < peers.size(); peer++) {
            loops += count(peer, -8, -8);
        }
        return loops;
    }

    private int count(int peer, int low, int high) {
        int count = 0;
        for (int table = 0; table <= 1; table++) {
            for (int prefix = 0; prefix <= 7; prefix++) {
                int answer = forward(peer, table, prefix);
                count += answer >= low && answer <= high ? 1 : 0;
            }
        }
        return count;
    }
}
