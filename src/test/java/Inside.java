import java.lang.reflect.Field;

/**
 * Reaches into the private fields of an object, for the sentences of the document that no run of calls shows. Whoever
 * renames a field of the class mends this file, and no other test.
 */
final class Inside {
    private Inside() {
    }

    /** Makes a peer the next hop of a route, without a selection. */
    static void bendHop(GracefulRestart x, int route, int hop) throws ReflectiveOperationException {
        ((int[]) get(x, "hops"))[route] = hop;
    }

    static void makeLearnedStale(GracefulRestart x, int peer, int route) throws ReflectiveOperationException {
        ((boolean[]) get(peer(x, peer), "staleLearned"))[route] = true;
    }

    /** Lets the deferral timer reach 0 without a tick, so that nothing has checked it yet. */
    static void emptyDeferralTimer(GracefulRestart x) throws ReflectiveOperationException {
        field(x, "deferralLeft").setInt(x, 0);
    }

    /** Marks the end of both tables without a call, so that nothing has checked it yet. */
    static void markBoth(GracefulRestart x, int peer) throws ReflectiveOperationException {
        field(peer(x, peer), "marks").setInt(peer(x, peer), 3);
    }

    private static Object peer(GracefulRestart x, int number) throws ReflectiveOperationException {
        return ((Object[]) get(x, "peers"))[number];
    }

    private static Object get(Object of, String name) throws ReflectiveOperationException {
        return field(of, name).get(of);
    }

    private static Field field(Object of, String name) throws ReflectiveOperationException {
        Field field = of.getClass().getDeclaredField(name);
        field.setAccessible(true);
        return field;
    }
}
