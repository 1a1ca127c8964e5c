import java.io.IOException;
import java.lang.reflect.Method;
import java.nio.file.Files;
import java.nio.file.Path;
import java.util.regex.Matcher;
import java.util.regex.Pattern;

/** What README.md says: its example answers as its remarks tell, and every test that it names is there. */
final class ReadmeTest {
    private static final Pattern NAMED = Pattern.compile("`([A-Za-z]+Test)(?:\\.([A-Za-z]+)(\\.\\.)?)?`");
    private static final Pattern NAMED_BEHIND = Pattern.compile("`([a-z][A-Za-z]+)(\\.\\.)?`");
    private static final Pattern CLASS_ROW = Pattern.compile("\\| (`[A-Z].*`) \\| [a-z].*");

    public static void main(String[] args) throws IOException {
        String readme = Files.readString(Path.of("README.md"));
        example(readme);
        testsAreThere(readme);
        classesAreThere(readme);
        Bench.finish("ReadmeTest");
    }

    /** The lines of the example stand here as there, so that neither changes without the other. */
    private static void example(String readme) {
        BrotliWords x = new BrotliWords();
        Bench.due("README: feed", x.feed(0x776f7264, 0, 0, 0, 0), 20);
        Bench.due("README: end", x.end(4), 4);
        Bench.due("README: word", x.word(), 1);
        x.feed(0x61207761, 0x6c6b206f, 0x6620776f, 0x7264732c, 0x20776f72);
        int packed = x.pack(2);
        Bench.due("README: pass", x.pass(), packed);
        Bench.due("README: open", x.open(), 20);
        Bench.due("README: out", x.out(0), 'a');
        String[] lines = {
            "x.feed(0x776f7264, 0, 0, 0, 0);", "x.end(4);", "x.word();",
            "x.feed(0x61207761, 0x6c6b206f, 0x6620776f, 0x7264732c, 0x20776f72);",
            "int packed = x.pack(2);", "x.pass();", "int opened = x.open();", "int first = x.out(0);"};
        int at = 0;
        for (String line : lines) {
            at = readme.indexOf(line, at);
            Bench.due("README has " + line, at >= 0 ? 1 : 0, 1);
            at = Math.max(at, 0);
        }
    }

    /** A table's row names a test class and a method; further methods in it are of the class named last. */
    private static void testsAreThere(String readme) {
        int named = 0;
        for (String line : readme.split("\n")) {
            String test = null;
            for (String cell : line.split("(?=`[A-Za-z.]+`)")) {
                Matcher whole = NAMED.matcher(cell);
                Matcher behind = NAMED_BEHIND.matcher(cell);
                if (whole.lookingAt()) {
                    test = whole.group(1);
                    Bench.due("README names " + cell, hasMethod(test, whole.group(2), whole.group(3)), 1);
                    named++;
                } else if (test != null && behind.lookingAt()) {
                    Bench.due("README names " + cell, hasMethod(test, behind.group(1), behind.group(2)), 1);
                    named++;
                }
            }
        }
        Bench.due("README names many tests", named > 50 ? 1 : 0, 1);
    }

    private static int hasMethod(String test, String name, String more) {
        if (!Files.exists(Path.of("src/test/java", test + ".java"))) {
            return 0;
        }
        try {
            for (Method m : Class.forName(test).getDeclaredMethods()) {
                String its = m.getName();
                if (name == null || (more == null ? its.equals(name) : its.startsWith(name))) {
                    return 1;
                }
            }
        } catch (ClassNotFoundException e) {
            return 0;
        }
        return 0;
    }

    /** The table "Inside" names every class within the class, and no other. */
    private static void classesAreThere(String readme) {
        StringBuilder told = new StringBuilder();
        String inside = readme.substring(readme.indexOf("## Inside"), readme.indexOf("## Tests"));
        for (String line : inside.split("\n")) {
            Matcher row = CLASS_ROW.matcher(line);
            if (row.matches()) {
                told.append(row.group(1)).append(", ");
            }
        }
        Class<?>[] all = BrotliWords.class.getDeclaredClasses();
        for (Class<?> one : all) {
            Bench.due("README tells of " + one.getSimpleName(),
                told.indexOf("`" + one.getSimpleName() + "`") >= 0 ? 1 : 0, 1);
        }
        Bench.due("classes that README tells of", told.toString().split(", ").length, all.length);
    }
}
