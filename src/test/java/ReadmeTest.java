import java.lang.reflect.Method;
import java.nio.file.Files;
import java.nio.file.Path;
import java.util.ArrayList;
import java.util.List;
import java.util.TreeSet;
import java.util.regex.Matcher;
import java.util.regex.Pattern;

/** README.md's example answers what it says, and its headings and exceptions are the class's. */
public final class ReadmeTest {
    private static final Pattern EXAMPLE = Pattern.compile("(?m)^row\\.(\\w+)\\((.*?)\\); +// ([\\w-]+)");
    private static final Pattern ENTRY = Pattern.compile(
            "(?ms)^### `(\\w+ \\w+\\([^`]*\\))`\n(.*?)(?=^##|\\z)");

    public static void main(String[] args) throws Exception {
        Path root = Path.of(args[0]).toAbsolutePath().normalize();
        for (int i = 0; i < 4; i++) {
            root = root.getParent();
        }
        String readme = Files.readString(root.resolve("README.md"));
        theExampleAnswersWhatItSays(readme);
        everyMethodHasAnEntry(readme);
        Check.end();
    }

    private static void theExampleAnswersWhatItSays(String readme) throws Exception {
        Beamrow row = new Beamrow();
        TreeSet<String> called = new TreeSet<>();
        Matcher line = EXAMPLE.matcher(readme);
        while (line.find()) {
            Method method = named(line.group(1));
            String answer = String.valueOf(method.invoke(row, arguments(line.group(2))));
            Check.due(line.group() + " (answered " + answer + ") is right", true, answer.equals(line.group(3)));
            called.add(line.group(1));
        }
        Check.due("methods of the example " + called, 16, called.size());
    }

    private static Method named(String name) throws Exception {
        for (Method method : Beamrow.class.getMethods()) {
            if (method.getName().equals(name)) {
                return method;
            }
        }
        throw new Exception("README.md calls " + name);
    }

    private static Object[] arguments(String list) throws Exception {
        List<Object> arguments = new ArrayList<>();
        for (String one : list.isEmpty() ? new String[0] : list.split(", ")) {
            if (one.equals("true") || one.equals("false")) {
                arguments.add(Boolean.valueOf(one));
            } else if (one.startsWith("Beamrow.")) {
                arguments.add(Beamrow.class.getField(one.substring("Beamrow.".length())).getInt(null));
            } else {
                arguments.add(Integer.valueOf(one));
            }
        }
        return arguments.toArray();
    }

    /** Each heading is a method as it is, and its entry names what the method throws, in order. */
    private static void everyMethodHasAnEntry(String readme) throws Exception {
        TreeSet<String> told = new TreeSet<>();
        Matcher entry = ENTRY.matcher(readme);
        while (entry.find()) {
            String head = entry.group(1);
            Method method = named(head.substring(head.indexOf(' ') + 1, head.indexOf('(')));
            Check.due(head + " is as it is", true, head.replaceAll(" \\w+(?=[,)])", "").equals(face(method)));
            Check.due(head + " throws " + thrownBy(method), true, told(entry.group(2)).equals(thrownBy(method)));
            for (String part : new String[] {"\n- takes: ", "\n- answers: ", "\n- throws: "}) {
                Check.due(head + " tells what it" + part.substring(2), true, entry.group(2).contains(part));
            }
            told.add(method.getName());
        }
        Check.due("methods told " + told, 16, told.size());
    }

    private static String face(Method method) {
        List<String> kinds = new ArrayList<>();
        for (Class<?> one : method.getParameterTypes()) {
            kinds.add(one.getSimpleName());
        }
        return method.getReturnType().getSimpleName() + " " + method.getName()
                + "(" + String.join(", ", kinds) + ")";
    }

    private static List<String> thrownBy(Method method) {
        List<String> names = new ArrayList<>();
        for (Class<?> one : method.getExceptionTypes()) {
            names.add(one.getSimpleName());
        }
        return names;
    }

    private static List<String> told(String text) {
        List<String> names = new ArrayList<>();
        Matcher name = Pattern.compile("`(\\w+Exception)`").matcher(text);
        while (name.find()) {
            names.add(name.group(1));
        }
        return names;
    }
}
