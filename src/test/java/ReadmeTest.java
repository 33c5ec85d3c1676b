import java.io.IOException;
import java.lang.reflect.Method;
import java.lang.reflect.Modifier;
import java.nio.file.DirectoryStream;
import java.nio.file.Files;
import java.nio.file.Path;

/** README.md names each call of the face and each test; what its examples say is what they answer. */
public final class ReadmeTest {
    public static void main(String[] arguments) throws IOException {
        String readme = Files.readString(Path.of("README.md"));
        for (Method method : SlotWorld.class.getDeclaredMethods()) {
            if (Modifier.isPublic(method.getModifiers())) {
                Check.due("README tells " + method.getName(), readme.contains("`" + method.getName() + "`"), true);
            }
        }
        try (DirectoryStream<Path> tests = Files.newDirectoryStream(Path.of("src/test/java"), "*Test.java")) {
            for (Path test : tests) {
                String name = test.getFileName().toString().replace(".java", "");
                Check.due("README tells " + name, readme.contains("| " + name + " |"), true);
            }
        }
        examples(readme);
        Check.end("ReadmeTest");
    }

    private static void stands(String readme, String line) {
        Check.due("README has " + line, readme.contains(line), true);
    }

    private static void examples(String readme) {
        SlotWorld world = new SlotWorld(300);
        stands(readme, "world.feed(0x33202B20, 0x34000000, 0, 0, 0);");
        world.feed(0x33202B20, 0x34000000, 0, 0, 0);
        int p = world.tell(5);
        world.turn(300);
        Check.due("seven", world.answer(p, 0), (1L << 40) + 7);
        stands(readme, "world.feed(0x78202B20, 0x31000000, 0, 0, 0);");
        world.feed(0x78202B20, 0x31000000, 0, 0, 0);
        int q = world.tell(5);
        world.turn(300);
        Check.due("none", world.process(q, 4), 1);
        Check.due("x", world.erred(q, 0), 0x7800000000000000L);
        Check.due("mend", world.mend(q, (1L << 40) + 5), true);
        world.turn(300);
        Check.due("six", world.answer(q, 0), (1L << 40) + 6);
    }
}
