import java.io.IOException;
import java.lang.reflect.Constructor;
import java.lang.reflect.Field;
import java.lang.reflect.Method;
import java.lang.reflect.Modifier;
import java.nio.file.Files;
import java.nio.file.Path;
import java.util.Arrays;
import java.util.Set;
import java.util.TreeSet;

/** The public face of the document, and the words that LANGUAGE.md forbids in the class. */
public final class FaceTest {
    private static final String[] METHODS = {
        "addPeer(boolean)", "announce(int,int,int,int)", "deferralTimer()", "disconnect(int)", "endOfTable(int,int)",
        "forward(int,int,int)", "isDeferring()", "isEntryStale(int,int)", "isLearnedStale(int,int,int)",
        "learnedLength(int,int,int)", "loopCount()", "nextHop(int,int)", "reachableCount(int)", "reconnect(int)",
        "restart(boolean)", "restartTimer(int)", "sessionState(int)", "setDeferralTime(int)", "setRestartTime(int)",
        "setStaleTime(int)", "staleTimer(int)", "tick(int)", "waitingPeers()", "withdraw(int,int,int)"
    };
    private static final String[] FORBIDDEN = {
        "throw", "throws", "try", "catch", "synchronized", "assert", "import", "package", "System", "Object", "Thread",
        "random", "equals", "hashCode", "toString", "protected"
    };

    public static void main(String[] args) throws Exception {
        constants();
        members();
        words();
        Checks.finish();
    }

    private static void constants() {
        Checks.due("NO_SUCH_PEER", GracefulRestart.NO_SUCH_PEER, -1);
        Checks.due("NO_SUCH_ROUTE", GracefulRestart.NO_SUCH_ROUTE, -2);
        Checks.due("BAD_VALUE", GracefulRestart.BAD_VALUE, -3);
        Checks.due("WRONG_STATE", GracefulRestart.WRONG_STATE, -4);
        Checks.due("FULL", GracefulRestart.FULL, -5);
        Checks.due("NONE", GracefulRestart.NONE, -6);
        Checks.due("DROPPED", GracefulRestart.DROPPED, -7);
        Checks.due("LOOPED", GracefulRestart.LOOPED, -8);
        Checks.due("UP", GracefulRestart.UP, 0);
        Checks.due("HELPING", GracefulRestart.HELPING, 1);
        Checks.due("DOWN", GracefulRestart.DOWN, 2);
    }

    private static void members() {
        Class<GracefulRestart> face = GracefulRestart.class;
        Checks.holds("public final", Modifier.isPublic(face.getModifiers()) && Modifier.isFinal(face.getModifiers()));
        Checks.due("constructors", face.getDeclaredConstructors().length, 1);
        for (Constructor<?> made : face.getDeclaredConstructors()) {
            Checks.holds("public constructor()", Modifier.isPublic(made.getModifiers()) && made.getParameterCount() == 0);
        }
        Set<String> open = new TreeSet<>();
        Set<String> openNames = new TreeSet<>();
        Set<String> privateNames = new TreeSet<>();
        for (Method method : face.getDeclaredMethods()) {
            if (Modifier.isPrivate(method.getModifiers())) {
                privateNames.add(method.getName());
                continue;
            }
            Checks.holds(method + " is public, answers int", method.getReturnType() == int.class
                && method.getModifiers() == Modifier.PUBLIC);
            open.add(method.getName() + parameters(method));
            openNames.add(method.getName());
        }
        Checks.holds("the methods " + open, open.equals(new TreeSet<>(Set.of(METHODS))));
        privateNames.retainAll(openNames);
        Checks.holds("no private method bears a public one's name: " + privateNames, privateNames.isEmpty());
        fields(face);
        for (Class<?> inside : face.getDeclaredClasses()) {
            Checks.holds(inside + " is static, not public", Modifier.isStatic(inside.getModifiers())
                && !Modifier.isPublic(inside.getModifiers()) && !Modifier.isProtected(inside.getModifiers()));
        }
    }

    private static String parameters(Method method) {
        StringBuilder text = new StringBuilder("(");
        for (Class<?> type : method.getParameterTypes()) {
            text.append(text.length() > 1 ? "," : "").append(type.getName());
        }
        return text.append(')').toString();
    }

    private static void fields(Class<?> face) {
        int open = 0;
        for (Field field : face.getDeclaredFields()) {
            int kind = field.getModifiers();
            if (!Modifier.isPrivate(kind)) {
                open++;
                Checks.holds(field + " is a constant",
                    kind == (Modifier.PUBLIC | Modifier.STATIC | Modifier.FINAL) && field.getType() == int.class);
            }
            Checks.holds(field + ": static is final", !Modifier.isStatic(kind) || Modifier.isFinal(kind));
        }
        Checks.due("public constants", open, 11);
    }

    private static void words() throws IOException {
        String source = Files.readString(Path.of("src/main/java/GracefulRestart.java"));
        String code = source.replaceAll("(?s)/\\*.*?\\*/", " ").replaceAll("//[^\n]*", " ");
        Set<String> used = new TreeSet<>(Arrays.asList(code.split("\\W+")));
        for (String word : FORBIDDEN) {
            Checks.holds("the class does without '" + word + "'", !used.contains(word));
        }
        // The class needs nothing of the library, so every name of a type in it is its own.
        used.removeIf(word -> !word.matches("[A-Z]\\w*[a-z]\\w*"));
        Checks.holds("the types " + used, used.equals(Set.of("GracefulRestart", "Peer")));
        Checks.holds("no lambda, no method reference", !code.contains("->") && !code.contains("::"));
    }
}
