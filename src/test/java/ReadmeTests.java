import java.lang.reflect.Method;
import java.lang.reflect.Modifier;
import java.nio.file.Files;
import java.nio.file.Path;
import java.util.Arrays;
import java.util.regex.Matcher;
import java.util.regex.Pattern;

/** README.md's examples, call by call, and that it names all calls. Arguments: class, document, README.md. */
public final class ReadmeTests extends Checks {
    private static final Pattern CALL = Pattern.compile("reef\\.(\\w+)\\(([^)]*)\\); +// (-?\\d+)\\b.*");

    private static long answer(BoneWords reef, String name, String list) throws Exception {
        String[] told = list.isEmpty() ? new String[0] : list.split(", ");
        Class<?>[] types = new Class<?>[told.length];
        Arrays.fill(types, int.class);
        Object[] numbers = new Object[told.length];
        for (int i = 0; i < told.length; i++) {
            numbers[i] = (int) (long) Long.decode(told[i]);
        }
        return ((Number) BoneWords.class.getMethod(name, types).invoke(reef, numbers)).longValue();
    }

    /** An example begins with a new reef; each further line is a call with its answer behind it. */
    private static int examples(String readme) throws Exception {
        Matcher blocks = Pattern.compile("(?s)```java\n(.*?)```").matcher(readme);
        int found = 0;
        while (blocks.find()) {
            found++;
            String[] lines = blocks.group(1).split("\n");
            due("an example begins with a new reef", 1, lines[0].equals("BoneWords reef = new BoneWords();") ? 1 : 0);
            BoneWords reef = new BoneWords();
            for (int i = 1; i < lines.length; i++) {
                Matcher call = CALL.matcher(lines[i]);
                boolean is = call.matches();
                due("a call with its answer: " + lines[i], 1, is ? 1 : 0);
                if (is) {
                    due(lines[i], Long.parseLong(call.group(3)), answer(reef, call.group(1), call.group(2)));
                }
            }
        }
        return found;
    }

    public static void main(String[] args) throws Exception {
        if (args.length < 3) {
            System.out.println("ReadmeTests needs the paths of the class, the document and README.md");
            System.exit(1);
        }
        String readme = Files.readString(Path.of(args[2]));
        due("examples", 3, examples(readme));
        for (Method m : BoneWords.class.getDeclaredMethods()) {
            if (Modifier.isPublic(m.getModifiers())) {
                due(m.getName() + " is named", 1, readme.contains("`" + m.getName() + "`") ? 1 : 0);
            }
        }
        finish("ReadmeTests");
    }
}
