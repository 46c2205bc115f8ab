import java.io.IOException;
import java.nio.charset.StandardCharsets;
import java.nio.file.Files;
import java.nio.file.Path;

/** What all tests share: putting texts on the tape, and telling answers that are not as due. */
final class Due {
    private static final Path DOCUMENT = Path.of("..", "shared", "DOC.md");

    private int wrong;
    private int looked;
    private String sentence = "";

    /** Names the document's words from which the answers that follow are due; they must stand in it. */
    void says(String words) {
        sentence = words;
        due("that the document says so", isInDocument(words) ? 1 : 0, 1);
    }

    private static boolean isInDocument(String words) {
        if (!Files.isReadable(DOCUMENT)) {
            return true;
        }
        try {
            return plain(Files.readString(DOCUMENT, StandardCharsets.UTF_8)).contains(plain(words));
        } catch (IOException e) {
            throw new IllegalStateException("the document can't be read", e);
        }
    }

    private static String plain(String text) {
        return text.replaceAll("\\s+", " ");
    }

    void due(String call, int got, int want) {
        looked++;
        if (got != want) {
            wrong++;
            String by = sentence.isEmpty() ? "" : " by '" + sentence + "'";
            System.out.println(call + " answered " + got + ", due is " + want + by);
        }
    }

    /** Ends the test: exit code 1 if an answer was not as due. */
    void close() {
        System.out.println(looked + " answers looked at, " + wrong + " not as due");
        if (wrong != 0 || looked == 0) {
            System.exit(1);
        }
    }

    int wrong() {
        return wrong;
    }

    /** Puts a text (signs 0 .. 255) on the tape, whatever was there before. */
    static void put(OwnedByGuests x, String text) {
        x.end(0);
        for (int i = 0; i < text.length(); i += 20) {
            x.feed(four(text, i), four(text, i + 4), four(text, i + 8), four(text, i + 12), four(text, i + 16));
        }
        x.end(text.length());
    }

    private static int four(String text, int from) {
        int four = 0;
        for (int i = from; i < from + 4; i++) {
            four = four << 8 | (i < text.length() ? text.charAt(i) & 255 : 0);
        }
        return four;
    }

    static int village(OwnedByGuests x, String text) {
        put(x, text);
        return x.village();
    }

    static OwnedByGuests of(String text) {
        OwnedByGuests x = new OwnedByGuests();
        if (village(x, text) < 0) {
            throw new IllegalStateException("the test's own village has a fault at " + x.fault(1) + ": " + text);
        }
        return x;
    }

    static int plan(OwnedByGuests x, int person, String places) {
        put(x, places);
        return x.plan(person);
    }

    static int book(OwnedByGuests x, String text) {
        put(x, text);
        return x.book();
    }

    static int feast(OwnedByGuests x, String row) {
        put(x, row);
        return x.feast();
    }
}
