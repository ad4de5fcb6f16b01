import java.lang.reflect.Field;
import java.lang.reflect.Member;
import java.lang.reflect.Method;
import java.lang.reflect.Modifier;
import java.nio.file.Files;
import java.nio.file.Path;
import java.util.ArrayList;
import java.util.Arrays;
import java.util.List;
import java.util.Set;
import java.util.TreeSet;
import java.util.regex.Matcher;
import java.util.regex.Pattern;

/** The face against the document's, and those rules of LANGUAGE.md that can be seen. Arguments: class, document. */
public final class LanguageTests {
    private static int passed = 0;
    private static int failed = 0;

    private static void holds(String what, boolean is) {
        if (is) {
            passed++;
        } else {
            failed++;
            System.out.println("not so: " + what);
        }
    }

    private static Set<String> faceOfDocument(String doc) {
        Set<String> face = new TreeSet<>();
        Matcher m = Pattern.compile("^    public ((?:int|long) \\w+\\([^)]*\\));", Pattern.MULTILINE).matcher(doc);
        while (m.find()) {
            face.add(m.group(1).replaceAll(" \\w+(?=[,)])", "").replace(" ", ""));
        }
        return face;
    }

    private static Set<String> faceOfClass() {
        Set<String> face = new TreeSet<>();
        for (Method m : BoneWords.class.getDeclaredMethods()) {
            if (Modifier.isPublic(m.getModifiers())) {
                List<String> types = new ArrayList<>();
                for (Class<?> c : m.getParameterTypes()) {
                    types.add(c.getName());
                }
                face.add(m.getReturnType() + m.getName() + "(" + String.join(",", types) + ")");
            }
        }
        return face;
    }

    private static void face(String doc) {
        Set<String> want = faceOfDocument(doc);
        holds("the document has 43 methods", want.size() == 43);
        holds("the face is the document's: " + want + faceOfClass(), want.equals(faceOfClass()));
        holds("one constructor", BoneWords.class.getConstructors().length == 1);
        holds("final", Modifier.isFinal(BoneWords.class.getModifiers()));
        Set<String> open = new TreeSet<>();
        for (Method m : BoneWords.class.getDeclaredMethods()) {
            if (Modifier.isPublic(m.getModifiers())) {
                open.add(m.getName());
            } else {
                hidden(m);
            }
        }
        Arrays.stream(BoneWords.class.getDeclaredFields()).forEach(LanguageTests::hidden);
        for (Class<?> c : BoneWords.class.getDeclaredClasses()) {
            holds(c + " is static", Modifier.isStatic(c.getModifiers()));
            fields(c);
            for (Method m : c.getDeclaredMethods()) {
                holds(m + " bears no public name", !open.contains(m.getName()));
            }
        }
        fields(BoneWords.class);
        for (Method m : BoneWords.class.getDeclaredMethods()) {
            holds(m + " bears no public name", Modifier.isPublic(m.getModifiers()) || !open.contains(m.getName()));
        }
        holds("twelve classes at most", BoneWords.class.getDeclaredClasses().length < 12);
    }

    private static void hidden(Member m) {
        holds(m + " is private", Modifier.isPrivate(m.getModifiers()));
    }

    private static void fields(Class<?> c) {
        int fields = 0;
        for (Field f : c.getDeclaredFields()) {
            if (Modifier.isStatic(f.getModifiers())) {
                holds(f + " is final", Modifier.isFinal(f.getModifiers()));
            } else {
                fields++;
            }
        }
        holds(c + " has twenty fields at most", fields <= 20);
    }

    /** The program without comments and with its texts emptied. */
    private static String bareCode(String code) {
        return code.replaceAll("(?s)/\\*.*?\\*/", "").replaceAll("\"(\\\\.|[^\"\\\\])*\"", "\"\"")
            .replaceAll("//[^\n]*", "");
    }

    private static void text(String code) {
        String bare = bareCode(code);
        String[] words = {"throw", "throws", "try", "catch", "finally", "synchronized", "assert", "import", "package",
            "lambda", "equals", "hashCode", "toString", "Object", "System\\.(?!arraycopy)", "Thread", "Random", "yield",
            "var", "native", "volatile", "transient", "instanceof null"};
        for (String w : words) {
            holds("no " + w, !Pattern.compile("\\b" + w + (w.endsWith(")") ? "" : "\\b")).matcher(bare).find());
        }
        holds("no lambda", !bare.contains("->"));
        holds("no method reference", !bare.contains("::"));
        holds("no text joined by +", !bare.contains("\" +") && !bare.contains("+ \""));
        holds("no Exact", !bare.contains("Exact"));
        holds("no loop without an end", !bare.contains("while (true)") && !bare.contains("for (;;)"));
        int news = bare.split("\\bnew \\w").length - 1;
        int inFields = bare.split("(?m)^ +(private )?final [\\w\\[\\]]+ \\w+ = new \\w").length - 1;
        holds("new stands in fields and in one constructor's loop alone", news == inFields + 1);
    }

    private static void methods(String code) {
        Matcher m = Pattern.compile("(?m)^( {4,8})(?=\\S)[^;=\n]*\\)\\s*\\{\n(?s:(.*?))\n\\1\\}").matcher(code);
        int found = 0;
        while (m.find()) {
            found++;
            holds("short: " + m.group().split("\n")[0], m.group().split("\n").length <= 60);
        }
        holds("methods were found", found > 43);
        for (String line : code.split("\n")) {
            holds("signs 32 to 126, a line of 120 at most: " + line, line.length() <= 120 && line.matches("[ -~]*"));
        }
    }

    public static void main(String[] args) throws Exception {
        if (args.length < 2) {
            System.out.println("LanguageTests needs the path of the class and that of the document");
            System.exit(1);
        }
        String code = Files.readString(Path.of(args[0]));
        face(Files.readString(Path.of(args[1])));
        text(code);
        methods(code);
        System.out.println("LanguageTests: " + passed + " passed, " + failed + " failed");
        System.exit(failed == 0 ? 0 : 1);
    }
}
