import java.nio.file.Files;
import java.nio.file.Path;
import java.util.regex.Matcher;
import java.util.regex.Pattern;

/** What of LANGUAGE.md's rules can be seen in the source's words. */
public final class LanguageTest {
    public static void main(String[] args) throws Exception {
        String source = Files.readString(Path.of(args[0]));
        String code = withoutTexts(source);
        dueNone(code, "package\\s", "a package line");
        dueNone(code, "->|::", "a lambda or a method reference");
        dueNone(code, "\\b(try|catch|finally|synchronized|assert|record|yield|native|volatile)\\b", "a word");
        dueNone(code, "\\bimport\\s+(?!java\\.util\\.(ArrayList|List|Arrays|Iterator)\\b)", "an import");
        dueNone(code, "\\bstatic\\s*\\{", "a static initialiser");
        dueNone(code, "\\bMath\\.(?!(floorDiv|floorMod|min|max)\\b)", "a function of Math");
        dueNone(code, "\\bSystem\\.(?!arraycopy\\b)", "a function of System");
        dueNone(code, "\\bArrays\\.(?!(fill|copyOf|copyOfRange)\\b)", "a function of Arrays");
        dueNone(code, "\\b(equals|hashCode|toString|getClass)\\s*\\(", "a call of Object");
        dueNone(code, "\\b(double|float|Object|Random|Thread)\\b", "a type");
        dueNone(code, "throw\\s+(?!new (IllegalStateException|IllegalArgumentException|IndexOutOfBoundsException)"
                + "\\((\"\")?\\))", "a throw");
        dueNone(source, "[^\\x00-\\x7f]", "a sign above 127");
        onlyConstructorsMakeObjects(code);
        Check.end();
    }

    /** The code with empty texts and without comments. */
    private static String withoutTexts(String source) {
        return source.replaceAll("(?s)/\\*.*?\\*/", " ").replaceAll("//[^\\n]*", " ")
                .replaceAll("\"[^\"\\n]*\"", "\"\"");
    }

    private static void dueNone(String code, String pattern, String what) {
        Matcher matcher = Pattern.compile(pattern).matcher(code);
        while (matcher.find()) {
            int end = Math.min(code.length(), matcher.start() + 40);
            Check.due(what + " at: " + code.substring(matcher.start(), end), 0, 1);
        }
    }

    /** One room holds all that a run makes: calls make nothing but what they throw. */
    private static void onlyConstructorsMakeObjects(String code) {
        String rest = code.replaceAll("throw new \\w+\\((\"\")?\\)", " ")
                .replaceAll("private final [\\w\\[\\]]+ \\w+ = new [^;]*;", " ")
                .replaceAll("\\[i\\] = new (Element|Source)\\(\\);", " ");
        dueNone(rest, "\\bnew\\b", "an object that a call makes");
    }
}
