import java.io.IOException;
import java.lang.reflect.Method;
import java.nio.charset.StandardCharsets;
import java.nio.file.Files;
import java.nio.file.Path;
import java.util.ArrayList;
import java.util.List;
import java.util.regex.Matcher;
import java.util.regex.Pattern;
import java.util.stream.Stream;

/** That some test names a sentence of each promise and of each of the terms, and README.md each call. */
public final class DocumentTest {
    private static final Due DUE = new Due();
    private static final Pattern SAYS = Pattern.compile("\\.says\\(((?:\\s*\"(?:[^\"\\\\]|\\\\.)*\"\\s*\\+?)+)\\)");
    private static final Pattern TEXT = Pattern.compile("\"((?:[^\"\\\\]|\\\\.)*)\"");

    public static void main(String[] args) throws IOException {
        Path document = Path.of("..", "shared", "DOC.md");
        List<String> quotes = quotes();
        DUE.due("that tests name sentences", quotes.isEmpty() ? 0 : 1, 1);
        if (Files.isReadable(document)) {
            String text = plain(Files.readString(document, StandardCharsets.UTF_8));
            for (int i = 1; i <= 36; i++) {
                // the heading and the call, in back quotes, are no sentence
                int from = text.indexOf("## Promise " + i + ":");
                int to = text.indexOf(" ## ", from + 3);
                DUE.due("that there is promise " + i, from >= 0 && to > from ? 1 : 0, 1);
                isNamed("promise " + i, from >= 0 && to > from ? text.substring(from, to) : "", quotes);
            }
            String terms = text.substring(text.indexOf("## Terms"), text.indexOf("The constants:"));
            String[] parts = terms.split(" I\\. | II\\. | III\\. ");
            DUE.due("parts of the terms", parts.length, 4);
            for (int i = 1; i < parts.length; i++) {
                isNamed("terms " + i, parts[i], quotes);
            }
        }
        readme();
        DUE.close();
    }

    private static void readme() throws IOException {
        String page = Files.readString(Path.of("README.md"), StandardCharsets.UTF_8);
        for (Method method : OwnedByGuests.class.getMethods()) {
            if (method.getDeclaringClass() == OwnedByGuests.class) {
                String name = method.getName();
                DUE.due("that README.md names " + name, page.contains("`" + name + "`") ? 1 : 0, 1);
            }
        }
        DUE.due("that README.md says how to run tests", page.contains("`.ci/run`") ? 1 : 0, 1);
    }

    private static void isNamed(String what, String body, List<String> quotes) {
        boolean isNamed = false;
        for (String quote : quotes) {
            isNamed = isNamed || body.contains(quote);
        }
        DUE.due("that a test names a sentence of " + what, isNamed ? 1 : 0, 1);
    }

    private static List<String> quotes() throws IOException {
        List<String> all = new ArrayList<>();
        try (Stream<Path> files = Files.list(Path.of("src", "test", "java"))) {
            for (Path file : files.filter(f -> f.toString().endsWith("Test.java")).toList()) {
                Matcher says = SAYS.matcher(Files.readString(file, StandardCharsets.UTF_8));
                while (says.find()) {
                    StringBuilder quote = new StringBuilder();
                    Matcher text = TEXT.matcher(says.group(1));
                    while (text.find()) {
                        quote.append(text.group(1).replace("\\\"", "\""));
                    }
                    all.add(plain(quote.toString()));
                }
            }
        }
        return all;
    }

    private static String plain(String text) {
        return text.replaceAll("\\s+", " ");
    }
}
