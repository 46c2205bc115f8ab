import java.io.IOException;
import java.lang.reflect.Field;
import java.lang.reflect.Modifier;
import java.nio.charset.StandardCharsets;
import java.nio.file.Files;
import java.nio.file.Path;
import java.util.regex.Matcher;
import java.util.regex.Pattern;

/** What LANGUAGE.md rules out and a look at the source can find. */
public final class LanguageTest {
    private static final Due DUE = new Due();
    private static final int MOST_LINES = 60;
    private static final int MOST_CLASSES = 12;
    private static final int MOST_FIELDS = 20;
    private static final int MOST_PARAMETERS = 7;

    public static void main(String[] args) throws IOException {
        String source = Files.readString(Path.of("src/main/java/OwnedByGuests.java"), StandardCharsets.UTF_8);
        String code = source.replaceAll("(?s)/\\*.*?\\*/", "").replaceAll("//[^\n]*", "").replaceAll("\"[^\"\n]*\"", "\"\"");
        ruledOut(code);
        library(code);
        sizes(code);
        DUE.due("signs beyond 127", (int) source.chars().filter(c -> c > 127).count(), 0);
        DUE.close();
    }

    private static int count(String code, String pattern) {
        Matcher matcher = Pattern.compile(pattern).matcher(code);
        int found = 0;
        while (matcher.find()) {
            found++;
        }
        return found;
    }

    /** Rules 2, 3, 5, 6 and 13. */
    private static void ruledOut(String code) {
        String[] words = {"throw", "throws", "try", "catch", "finally", "synchronized", "assert", "package", "import", "native",
            "volatile", "transient", "strictfp", "extends", "instanceof", "yield", "var", "System\\.(?!arraycopy)\\w+",
            "Random", "Thread", "Object", "Class", "hashCode", "toString", "equals"};
        for (String word : words) {
            DUE.due("how often there is " + word, count(code, "\\b" + word + "\\b"), 0);
        }
        String[] signs = {"->", "::", "@", "static\\s*\\{", "\\[\\]\\[\\]\\[\\]", "static (?!final|class|int|boolean|long|void)"};
        for (String sign : signs) {
            DUE.due("how often there is " + sign, count(code, sign), 0);
        }
    }

    /** Rule 4: what is called of the library is Math.min, Math.max, System.arraycopy, length and charAt. */
    private static void library(String code) {
        DUE.due("of Math", count(code, "\\bMath\\.(?!min\\b|max\\b)"), 0);
        DUE.due("of Integer, Long, Arrays, lists", count(code, "\\b(Integer|Long|Arrays|List|ArrayList|Iterator)\\b"), 0);
        DUE.due("of StringBuilder", count(code, "\\bStringBuilder\\b"), 0);
    }

    /** Rules 9 and 11. */
    private static void sizes(String code) {
        DUE.due("classes are few", count(code, "\\bclass \\w+ \\{") <= MOST_CLASSES ? 1 : 0, 1);
        DUE.due("loops without an end", count(code, "while \\(true\\)") + count(code, "for \\([^;]*;\\s*;"), 0);
        String[] lines = code.split("\n");
        String method = "";
        int from = 0;
        int methods = 0;
        for (int i = 0; i < lines.length; i++) {
            if (lines[i].matches("( {4}| {8})[\\w\\[\\] ]+\\([^;]*\\) \\{") && !lines[i].matches(" *(if|for|while|switch) .*")) {
                method = lines[i].trim();
                from = i;
                methods++;
                String parameters = method.substring(method.indexOf('(') + 1, method.indexOf(')'));
                DUE.due("parameters of " + method, parameters.split(",").length <= MOST_PARAMETERS ? 1 : 0, 1);
            } else if (!method.isEmpty() && lines[i].matches("( {4}| {8})\\}")) {
                DUE.due("lines of " + method, i - from < MOST_LINES ? 1 : 0, 1);
            }
        }
        DUE.due("methods were found", methods > 100 ? 1 : 0, 1);
        fields(OwnedByGuests.class);
        for (Class<?> inside : OwnedByGuests.class.getDeclaredClasses()) {
            fields(inside);
        }
    }

    private static void fields(Class<?> type) {
        int fields = 0;
        for (Field field : type.getDeclaredFields()) {
            boolean isStatic = Modifier.isStatic(field.getModifiers());
            fields += isStatic ? 0 : 1;
            DUE.due(field + " is final if static", isStatic && !Modifier.isFinal(field.getModifiers()) ? 1 : 0, 0);
        }
        DUE.due("fields of " + type.getName(), fields <= MOST_FIELDS ? 1 : 0, 1);
    }
}
