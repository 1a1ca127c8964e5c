import java.io.IOException;
import java.lang.management.ManagementFactory;
import java.lang.reflect.Array;
import java.lang.reflect.Constructor;
import java.lang.reflect.Executable;
import java.lang.reflect.Field;
import java.lang.reflect.Method;
import java.lang.reflect.Modifier;
import java.nio.file.Files;
import java.nio.file.Path;
import java.util.ArrayDeque;
import java.util.ArrayList;
import java.util.Collections;
import java.util.IdentityHashMap;
import java.util.List;
import java.util.Set;
import java.util.TreeSet;
import java.util.regex.Matcher;
import java.util.regex.Pattern;

/** The public face as the document writes it, the rules of LANGUAGE.md that can be counted, and the room taken. */
final class FaceTest {
    private static final Path SOURCE = Path.of("src/main/java/BrotliWords.java");

    public static void main(String[] args) throws IOException, IllegalAccessException {
        face();
        membersAreHidden();
        languageIsKept();
        classesAreSmall();
        methodsAreShort();
        roomIsSmall();
        callsMakeNothing();
        Bench.finish("FaceTest");
    }

    /** "The public face": each line of the document's block is a member, and there is no other. */
    private static void face() throws IOException {
        String doc = Files.readString(Path.of("../shared/DOC.md"));
        int from = doc.indexOf("public final class BrotliWords {");
        Set<String> told = new TreeSet<>();
        for (String line : doc.substring(doc.indexOf('\n', from), doc.indexOf("```", from)).split("\n")) {
            if (line.trim().startsWith("public") && !line.contains("static")) {
                told.add(line.trim().replaceAll("(?<=int) [a-z]+(?=[,)])", "").replace(", ", ","));
            }
        }
        Set<String> there = new TreeSet<>();
        for (Method m : BrotliWords.class.getDeclaredMethods()) {
            if (Modifier.isPublic(m.getModifiers())) {
                there.add(m.toString().replace("BrotliWords.", "") + ";");
            }
        }
        for (Constructor<?> c : BrotliWords.class.getDeclaredConstructors()) {
            there.add(c + ";");
        }
        Bench.due("members of the face", told.size(), 21);
        Bench.due("the face", there.toString(), told.toString());
        Bench.due("the class", Modifier.toString(BrotliWords.class.getModifiers()), "public final");
        Bench.due("constants", BrotliWords.BAD + " " + BrotliWords.NONE + " " + BrotliWords.FULL, "-1 -2 -3");
    }

    /** Rules 1, 2, 5: other members are private, classes inside static, static fields final. */
    private static void membersAreHidden() {
        Set<String> open = new TreeSet<>();
        Set<String> publicNames = new TreeSet<>();
        for (Method m : BrotliWords.class.getDeclaredMethods()) {
            if (Modifier.isPublic(m.getModifiers())) {
                publicNames.add(m.getName());
            }
        }
        for (Class<?> one : classes()) {
            if (one != BrotliWords.class) {
                Bench.due(one + " is static", Modifier.isStatic(one.getModifiers()) ? 1 : 0, 1);
                Bench.due(one + " is private", Modifier.isPrivate(one.getModifiers()) ? 1 : 0, 1);
            }
            for (Field f : one.getDeclaredFields()) {
                int how = f.getModifiers();
                Bench.due(f + " static, but not final", Modifier.isStatic(how) && !Modifier.isFinal(how) ? 1 : 0, 0);
                if (!Modifier.isPrivate(how)) {
                    open.add(f.getName());
                }
            }
            for (Method m : one.getDeclaredMethods()) {
                boolean shown = Modifier.isPublic(m.getModifiers());
                Bench.due(m + " has a name of the face", !shown && publicNames.contains(m.getName()) ? 1 : 0, 0);
                boolean hidden = shown || Modifier.isPrivate(m.getModifiers());
                Bench.due(m + " is seen", one == BrotliWords.class && !hidden ? 1 : 0, 0);
            }
        }
        Bench.due("fields that are seen", open.toString(), "[BAD, FULL, NONE]");
    }

    /** Rules 3, 4, 6, 13: what must not stand in the text, and the few names of the library that do. */
    private static void languageIsKept() throws IOException {
        String text = plainSource();
        String[] ruledOut = {
            "throw", "throws", "try", "catch", "finally", "synchronized", "assert", "native", "volatile", "strictfp",
            "package", "protected", "Object", "Exception", "Error", "Thread", "Random", "File", "hashCode", "toString"};
        for (String one : ruledOut) {
            Bench.due("the text has " + one, Pattern.compile("\\b" + one + "\\b").matcher(text).find() ? 1 : 0, 0);
        }
        Bench.due("the text has a lambda or a method reference", text.contains("->") || text.contains("::") ? 1 : 0, 0);
        Set<String> used = new TreeSet<>();
        Matcher library = Pattern.compile("\\b(Arrays|Math|System|Integer|Long|String|List)\\.[A-Za-z]+").matcher(text);
        while (library.find()) {
            used.add(library.group());
        }
        Bench.due("the library", used.toString(), "[Arrays.fill, Math.max, Math.min, System.arraycopy]");
        Matcher imports = Pattern.compile("(?m)^import .*$").matcher(text);
        Bench.due("an import", imports.find() ? imports.group() : "", "import java.util.Arrays;");
        Bench.due("one more import", imports.find() ? 1 : 0, 0);
    }

    /** Rule 11: at most some twelve classes, of some twenty fields each. */
    private static void classesAreSmall() {
        Bench.due("classes", classes().size() <= 12 ? 1 : 0, 1);
        for (Class<?> one : classes()) {
            int fields = 0;
            for (Field f : one.getDeclaredFields()) {
                fields += Modifier.isStatic(f.getModifiers()) ? 0 : 1;
            }
            Bench.due("fields of " + one, fields <= 20 ? 1 : 0, 1);
            List<Executable> all = new ArrayList<>(List.of(one.getDeclaredMethods()));
            all.addAll(List.of(one.getDeclaredConstructors()));
            for (Executable e : all) {
                Bench.due("parameters of " + e, e.getParameterCount() <= 7 ? 1 : 0, 1);
            }
        }
    }

    /** Rule 11: some sixty lines; a method begins and ends at the same indent. */
    private static void methodsAreShort() throws IOException {
        Pattern head = Pattern.compile("^( {4}| {8})[A-Za-z].*\\) \\{$");
        int from = -1;
        int methods = 0;
        String end = "";
        List<String> lines = Files.readAllLines(SOURCE);
        for (int i = 0; i < lines.size(); i++) {
            Matcher m = head.matcher(lines.get(i));
            if (from < 0 && m.matches()) {
                from = i;
                end = m.group(1) + "}";
            } else if (from >= 0 && lines.get(i).equals(end)) {
                Bench.due("lines of" + lines.get(from), i - from < 60 ? 1 : 0, 1);
                from = -1;
                methods++;
            }
        }
        Bench.due("methods", methods > 100 ? 1 : 0, 1);
    }

    /** All calls of one run live in one room: an object's rows are few, and as many behind calls as ahead. */
    private static void roomIsSmall() throws IllegalAccessException {
        Bench b = new Bench();
        long[] ahead = room(b.x);
        Bench.due("objects", ahead[0] < 1000 ? 1 : 0, 1);
        Bench.due("elements, some 75,000 as README says", ahead[1] > 70_000 && ahead[1] < 80_000 ? 1 : 0, 1);
        everyCall(b.x);
        long[] behind = room(b.x);
        Bench.due("more objects behind calls", behind[0] <= ahead[0] ? 0 : 1, 0);
        Bench.due("more elements behind calls", behind[1] <= ahead[1] ? 0 : 1, 0);
    }

    /** README: "no call makes any object". */
    private static void callsMakeNothing() {
        com.sun.management.ThreadMXBean threads =
            (com.sun.management.ThreadMXBean) ManagementFactory.getThreadMXBean();
        BrotliWords x = new BrotliWords();
        long least = Long.MAX_VALUE;
        for (int turn = 0; turn < 5; turn++) {
            long ahead = threads.getCurrentThreadAllocatedBytes();
            everyCall(x);
            least = Math.min(least, threads.getCurrentThreadAllocatedBytes() - ahead);
        }
        Bench.due("bytes that calls take", least, 0);
    }

    private static void everyCall(BrotliWords x) {
        for (int level = 0; level < 3; level++) {
            x.feed(0x776f7264, 0x776f7264, 0, 0, 0);
            x.end(4 + level);
            x.word();
            x.feed(0x61207761, 0x6c6b206f, 0x6620776f, 0x7264732c, 0x20776f72);
            x.feed(0x61207761, 0x6c6b206f, 0x6620776f, 0x7264732c, 0x20776f72);
            x.bits(77, 9);
            x.pack(level);
            x.command(0, level);
            x.pass();
            x.spoil(1, 1);
            x.spoil(1, 1);
            x.open();
            x.part(0, level);
            x.map(0, level);
            x.length(0, 0, 'a');
            x.out(x.ring(0) + x.read() + x.digest() + x.changed(4, 0, level, 0));
            x.pass();
            x.spoil(0, 1);
            x.open();
            x.wipe();
            x.count(level);
        }
        x.clear();
    }

    private static List<Class<?>> classes() {
        List<Class<?>> all = new ArrayList<>(List.of(BrotliWords.class.getDeclaredClasses()));
        all.add(BrotliWords.class);
        return all;
    }

    /** The text without comments and characters in quotes. */
    private static String plainSource() throws IOException {
        return Files.readString(SOURCE).replaceAll("(?s)/\\*.*?\\*/", "").replaceAll("//.*", "")
            .replaceAll("'\\\\?.'", "0");
    }

    /** How many objects and arrays hang on one, and how many fields and elements these have. */
    private static long[] room(Object root) throws IllegalAccessException {
        Set<Object> seen = Collections.newSetFromMap(new IdentityHashMap<>());
        ArrayDeque<Object> waiting = new ArrayDeque<>();
        long elements = 0;
        waiting.add(root);
        while (!waiting.isEmpty()) {
            Object one = waiting.remove();
            if (!seen.add(one)) {
                continue;
            }
            if (one.getClass().isArray()) {
                elements += Array.getLength(one);
                for (int i = 0; one instanceof Object[] && i < Array.getLength(one); i++) {
                    waiting.add(Array.get(one, i));
                }
            } else {
                elements += fieldsOf(one, waiting);
            }
        }
        return new long[] {seen.size(), elements};
    }

    private static int fieldsOf(Object one, ArrayDeque<Object> waiting) throws IllegalAccessException {
        int fields = 0;
        for (Field f : one.getClass().getDeclaredFields()) {
            if (!Modifier.isStatic(f.getModifiers())) {
                f.setAccessible(true);
                fields++;
                if (!f.getType().isPrimitive() && f.get(one) != null) {
                    waiting.add(f.get(one));
                }
            }
        }
        return fields;
    }
}
