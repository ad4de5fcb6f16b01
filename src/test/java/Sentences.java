import java.io.IOException;
import java.nio.file.Files;
import java.nio.file.Path;

/** Tests that quote the document: what a section says, with the calls that show it, until all of it is quoted. */
abstract class Sentences extends Checks {
    /** A call with one argument that is tried at its edges. */
    interface Call {
        long with(int v);
    }

    private static String document;
    private static String name;
    private static String section;
    private static boolean[] quoted;
    private static String sentence;
    private static int calls;

    static void open(String path) throws IOException {
        document = Files.readString(Path.of(path));
    }

    /** Begins the section between two marks; what was said of the one before is looked at first. */
    static void section(String heading, String from, String to) {
        close();
        name = heading;
        int begin = document.indexOf(from);
        int end = begin < 0 ? -1 : document.indexOf(to, begin + from.length());
        due(heading + " is in the document", 1, begin >= 0 && end >= 0 ? 1 : 0);
        section = begin < 0 || end < 0 ? "" : onOneLine(document.substring(begin + from.length(), end));
        quoted = new boolean[section.length()];
    }

    /** A promise's words stand behind the colon that follows the face of its call. */
    static void promise(int number, String call) {
        section("promise " + number, "## Promise " + number + ": " + call + "\n", "\n## ");
        int words = section.indexOf("`: ");
        due(name + " has words", 1, words >= 0 ? 1 : 0);
        section = section.substring(Math.max(0, words + 2));
        quoted = new boolean[section.length()];
    }

    private static String onOneLine(String text) {
        return text.replace("```text", "").replace("```", "").replaceAll("\\s+", " ");
    }

    static void says(String words) {
        int at = section.indexOf(words);
        due(name + " says: " + words, 1, at >= 0 ? 1 : 0);
        for (int i = at; at >= 0 && i < at + words.length(); i++) {
            quoted[i] = true;
        }
        sentence = words;
        calls = 0;
    }

    static void so(long want, long got) {
        calls++;
        due(name + ", \"" + sentence + "\", " + calls, want, got);
    }

    /** The least and the greatest will do; those beyond them won't, however they might wrap around. */
    static void range(BoneWords x, int low, int high, Call call) {
        so(0, call.with(low) == BEYOND ? 1 : 0);
        so(0, call.with(high) == BEYOND ? 1 : 0);
        int[] tried = {low - 1, high + 1, -1, MIN, MIN + 1, MAX, low + 256, high - 256, low + 65536, high - 65536, MIN + high};
        int beyond = x.status(0);
        for (int v : tried) {
            if (v < low || v > high) {
                so(BEYOND, call.with(v));
                beyond++;
            }
        }
        so(beyond, x.status(0));
    }

    /** What no test has quoted is told. */
    static void close() {
        if (section == null) {
            return;
        }
        StringBuilder left = new StringBuilder();
        for (int i = 0; i < section.length(); i++) {
            if (!quoted[i]) {
                left.append(section.charAt(i));
            }
        }
        String words = left.toString().trim();
        due(name + ", not quoted: " + words, 0, words.length());
        section = null;
    }
}
