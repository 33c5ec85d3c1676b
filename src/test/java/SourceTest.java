import java.io.IOException;
import java.lang.reflect.Array;
import java.lang.reflect.Field;
import java.lang.reflect.Method;
import java.lang.reflect.Modifier;
import java.nio.file.Files;
import java.nio.file.Path;
import java.util.IdentityHashMap;
import java.util.Map;
import java.util.regex.Matcher;
import java.util.regex.Pattern;

/** What ../shared/LANGUAGE.md binds the class to, as far as it is easy to see: words, face, sizes, room. */
public final class SourceTest {
    private static final String FACE = " feed tell fault turn process answer erred frame mend object slot value selector find found "
        + "senders sender references hold sweep undo write octets fetch count ";

    public static void main(String[] arguments) throws IOException, IllegalAccessException {
        String source = Files.readString(Path.of("src/main/java/SlotWorld.java"));
        String bare = source.replaceAll("/\\*(?s:.*?)\\*/|//[^\n]*", "").replaceAll("'(\\\\.|[^'\\\\])'", "' '")
            .replaceAll("\"(\\\\.|[^\"\\\\])*\"", "\"\"");
        words(bare);
        face();
        sizes(bare);
        room();
        Check.end("SourceTest");
    }

    private static void words(String bare) {
        String[] none = {"throw", "try", "catch", "finally", "synchronized", "assert", "import", "package", "Object", "protected",
            "lambda", "volatile", "native"};
        for (String word : none) {
            Check.due(word, Pattern.compile("\\b" + word + "\\b").matcher(bare).find(), false);
        }
        Check.due("no lambda", bare.contains("->"), false);
        Check.due("no method reference", bare.contains("::"), false);
        Check.due("texts are not joined by +", Pattern.compile("\"\"\\s*\\+|\\+\\s*\"\"").matcher(bare).find(), false);
        Matcher library = Pattern.compile("\\b(System|Math|Integer|Long|String|Arrays)\\.(\\w+)").matcher(bare);
        while (library.find()) {
            String used = " " + library.group(1) + "." + library.group(2) + " ";
            Check.due(used, " System.arraycopy Math.min Math.max Integer.MIN_VALUE Integer.MAX_VALUE ".contains(used), true);
        }
        Matcher maker = Pattern.compile("\n( *)([^\n]*\\bnew [^\n]*)").matcher(bare);
        while (maker.find()) {
            String line = maker.group(2);
            boolean once = line.startsWith("private final") || line.startsWith("final") || maker.group(1).length() >= 8 && line.matches(
                "(this\\.)?\\w+(\\[i\\])? = new .*");
            Check.due("made once: " + line, once, true);
        }
    }

    private static void face() {
        Check.due("final", Modifier.isFinal(SlotWorld.class.getModifiers()), true);
        for (Method method : SlotWorld.class.getDeclaredMethods()) {
            boolean told = FACE.contains(" " + method.getName() + " ");
            Check.due("method " + method.getName(), Modifier.isPublic(method.getModifiers()), told);
        }
        for (Field field : SlotWorld.class.getDeclaredFields()) {
            Check.due("field " + field.getName(), Modifier.isPrivate(field.getModifiers()), true);
        }
        Check.due("classes inside", SlotWorld.class.getDeclaredClasses().length <= 12, true);
        for (Class<?> inside : SlotWorld.class.getDeclaredClasses()) {
            Check.due("static " + inside, Modifier.isStatic(inside.getModifiers()), true);
            int fields = 0;
            for (Field field : inside.getDeclaredFields()) {
                fields += Modifier.isStatic(field.getModifiers()) ? 0 : 1;
            }
            Check.due("fields of " + inside, fields <= 22, true);
            for (Method method : inside.getDeclaredMethods()) {
                Check.due("no name of the face: " + method, FACE.contains(" " + method.getName() + " "), false);
                Check.due("parameters of " + method, method.getParameterCount() <= 7, true);
            }
        }
    }

    private static void sizes(String bare) {
        String[] lines = bare.split("\n");
        for (int i = 0; i < lines.length; i++) {
            Matcher head = Pattern.compile("( {4}| {8})(?! |if|for|while|switch|else|return)[\\w \\[\\]]+\\([^;]*\\) \\{").matcher(lines[i]);
            if (head.matches()) {
                int end = i;
                while (!lines[end].equals(head.group(1) + "}")) {
                    end++;
                }
                Check.due("lines of " + lines[i].trim(), end - i < 60, true);
            }
        }
    }

    /** All that a world is made of, so that many worlds have room side by side. */
    private static void room() throws IllegalAccessException {
        Check c = new Check(600);
        long before = elements(c.world, new IdentityHashMap<>());
        c.run("1 to: 300 Do: [ | :i | { x <- 0 } x: i _Text ]");
        c.world.write();
        Check.due("elements " + before, before < 400000, true);
        Check.due("no call makes more", elements(c.world, new IdentityHashMap<>()), before);
    }

    private static long elements(Object of, Map<Object, Object> seen) throws IllegalAccessException {
        if (of == null || of instanceof String || seen.put(of, of) != null) {
            return 0;
        }
        long n = 1;
        if (of.getClass().isArray()) {
            n += Array.getLength(of);
            for (int i = 0; i < Array.getLength(of) && !of.getClass().getComponentType().isPrimitive(); i++) {
                n += elements(Array.get(of, i), seen);
            }
            return n;
        }
        for (Field field : of.getClass().getDeclaredFields()) {
            if (!Modifier.isStatic(field.getModifiers())) {
                field.setAccessible(true);
                n += 1 + (field.getType().isPrimitive() ? 0 : elements(field.get(of), seen));
            }
        }
        return n;
    }
}
