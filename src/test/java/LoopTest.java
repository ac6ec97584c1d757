/**
 * LOOPED, in promises 23 to 25. No run of calls comes to it: a next hop never has a learned route. So this test bends
 * the forwarding table inside the object back to the peer that sends.
 */
public final class LoopTest {
    public static void main(String[] args) throws Exception {
        onePacket();
        everyPacketOfAPeer();
        everyPeerInTurn();
        Checks.finish();
    }

    private static void onePacket() throws ReflectiveOperationException {
        GracefulRestart x = Script.play("LOOPED if the next hop is the sending peer",
            "addPeer(true); addPeer(true); addPeer(true); announce(0, 1, 7, 4); announce(0, 0, 0, 4); loopCount() = 0");
        Inside.bendHop(x, 15, 1);
        Script.go(x, "forward(1, 1, 7) = -8; forward(2, 1, 7) = 1; forward(0, 1, 7) = -6; forward(1, 0, 0) = 0;"
            + "reachableCount(1) = 1; reachableCount(2) = 2; loopCount() = 1");
        Inside.bendHop(x, 0, 1);
        Script.go(x, "forward(1, 0, 0) = -8; reachableCount(1) = 0; reachableCount(2) = 2; loopCount() = 2");
        Inside.bendHop(x, 0, 2);
        Script.go(x, "forward(1, 0, 0) = 2; forward(2, 0, 0) = -8; reachableCount(1) = 1; reachableCount(2) = 1;"
            + "loopCount() = 2");
    }

    private static void everyPacketOfAPeer() throws ReflectiveOperationException {
        Checks.sentence("Counts, over all peers, tables and prefixes, the packets for which forward would return LOOPED.");
        GracefulRestart x = Checks.withPeers("ggggg");
        for (int route = 0; route < 16; route++) {
            x.announce(0, route / 8, route % 8, 4);
            Inside.bendHop(x, route, 4);
            Checks.due("loopCount()", x.loopCount(), route + 1);
        }
        Script.go(x, "reachableCount(4) = 0; reachableCount(3) = 16; reachableCount(0) = 0");
    }

    private static void everyPeerInTurn() throws ReflectiveOperationException {
        Checks.sentence("Counts, over all peers, tables and prefixes, the packets for which forward would return LOOPED.");
        GracefulRestart x = Checks.withPeers("ggggg");
        for (int peer = 0; peer < 5; peer++) {
            x.announce((peer + 1) % 5, 0, peer, 4);
        }
        Checks.due("loopCount()", x.loopCount(), 0);
        for (int peer = 0; peer < 5; peer++) {
            Inside.bendHop(x, peer, peer);
            Checks.due("forward", x.forward(peer, 0, peer), -8);
            Checks.due("loopCount()", x.loopCount(), peer + 1);
        }
    }
}
