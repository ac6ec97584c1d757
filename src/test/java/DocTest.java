import java.lang.reflect.Method;
import java.lang.reflect.Modifier;
import java.util.ArrayList;
import java.util.List;
import java.util.Set;
import java.util.TreeSet;
import java.util.regex.Matcher;
import java.util.regex.Pattern;

/** The class against the text of ../shared/DOC.md itself: its face, its constants, its promises and its examples. */
public final class DocTest {
    public static void main(String[] args) throws Exception {
        face();
        constants();
        promises();
        examples();
        Checks.finish();
    }

    private static void face() {
        Set<String> due = new TreeSet<>();
        for (String[] found : all("public int (\\w+\\([^)]*\\));")) {
            due.add(found[0].replaceAll(" \\w+(?=[,)])", ""));
        }
        Set<String> got = new TreeSet<>();
        for (Method method : GracefulRestart.class.getDeclaredMethods()) {
            if (Modifier.isPublic(method.getModifiers())) {
                got.add(signature(method));
            }
        }
        Checks.holds("the face has 24 methods: " + due, due.size() == 24);
        Checks.holds("the class has the face " + due + ", not " + got, due.equals(got));
    }

    private static String signature(Method method) {
        List<String> types = new ArrayList<>();
        for (Class<?> type : method.getParameterTypes()) {
            types.add(type.getName());
        }
        return method.getName() + "(" + String.join(", ", types) + ")";
    }

    private static void constants() throws ReflectiveOperationException {
        List<String[]> inTheFace = all("public static final int (\\w+) = (-?\\d+);");
        List<String[]> inTheList = all("(?m)^- `(\\w+) = (-?\\d+)`: ");
        Checks.due("constants in the face", inTheFace.size(), 11);
        Checks.due("constants in the list", inTheList.size(), 11);
        inTheFace.addAll(inTheList);
        for (String[] found : inTheFace) {
            Checks.due(found[0], GracefulRestart.class.getField(found[0]).getInt(null), Integer.parseInt(found[1]));
        }
    }

    private static void promises() throws ReflectiveOperationException {
        List<String[]> promises = all("(?m)^## Promise (\\d+): .*\n\n`(?:int )?(\\w+)\\(([^)]*)\\)`$");
        Checks.due("promises", promises.size(), 25);
        for (int i = 0; i < promises.size(); i++) {
            String[] found = promises.get(i);
            Checks.due("the number of a promise", Integer.parseInt(found[0]), i + 1);
            List<Class<?>> types = new ArrayList<>();
            for (String parameter : found[2].isEmpty() ? new String[0] : found[2].split(", ")) {
                types.add(parameter.startsWith("boolean ") ? boolean.class : int.class);
            }
            Class<?>[] parameters = types.toArray(new Class<?>[0]);
            if (i == 0) {
                GracefulRestart.class.getConstructor(parameters);
            } else {
                Checks.holds(found[1] + " answers int",
                    GracefulRestart.class.getMethod(found[1], parameters).getReturnType() == int.class);
            }
        }
    }

    private static void examples() {
        List<String[]> examples = all("(?m)^(\\d)\\. (.*): ([^:]*)\\.$");
        int[] calls = {12, 15, 14, 7};
        Checks.due("examples", examples.size(), calls.length);
        for (int i = 0; i < examples.size() && i < calls.length; i++) {
            String[] example = examples.get(i);
            Checks.due("the number of an example", Integer.parseInt(example[0]), i + 1);
            Checks.due("calls of example " + (i + 1), example[2].split(";").length, calls[i]);
            Checks.due("answers of example " + (i + 1), example[2].split("=", -1).length - 1, calls[i]);
            Script.play(example[1], example[2]);
        }
    }

    /** The groups of every place in the document where the pattern is found. */
    private static List<String[]> all(String pattern) {
        List<String[]> found = new ArrayList<>();
        Matcher matcher = Pattern.compile(pattern).matcher(Document.TEXT);
        while (matcher.find()) {
            String[] groups = new String[matcher.groupCount()];
            for (int i = 0; i < groups.length; i++) {
                groups[i] = matcher.group(i + 1);
            }
            found.add(groups);
        }
        return found;
    }
}
