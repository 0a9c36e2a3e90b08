import java.io.ByteArrayOutputStream;
import java.io.IOException;
import java.io.PrintStream;
import java.lang.reflect.Method;
import java.lang.reflect.Modifier;
import java.nio.charset.StandardCharsets;
import java.nio.file.DirectoryStream;
import java.nio.file.Files;
import java.nio.file.Path;

/** What README.md shows is what there is: its program, what that prints, and every call. */
public final class ReadmeTest extends Due {
    private static String block(String language, String content) {
        return "```" + language + "\n" + content + "```\n";
    }

    private static String printedByExample() {
        PrintStream before = System.out;
        ByteArrayOutputStream printed = new ByteArrayOutputStream();
        System.setOut(new PrintStream(printed, true, StandardCharsets.UTF_8));
        try {
            Example.main(new String[0]);
        } finally {
            System.setOut(before);
        }
        return printed.toString(StandardCharsets.UTF_8).replace("\r\n", "\n");
    }

    private static void program() {
        String readme = file("README.md");
        same("it shows Example", readme.contains(block("java", file("src/test/java/Example.java"))), true);
        String printed = printedByExample();
        same("it shows what Example prints:\n" + printed, readme.contains(block("text", printed)), true);
    }

    private static void calls() {
        String readme = file("README.md");
        for (Method method : DropSwitch.class.getDeclaredMethods()) {
            if (Modifier.isPublic(method.getModifiers())) {
                String name = method.getName();
                same("it tells of " + name, readme.contains("`" + name + "`"), true);
            }
        }
    }

    private static void tests() throws IOException {
        String readme = file("README.md");
        try (DirectoryStream<Path> files = Files.newDirectoryStream(Path.of("src/test/java"))) {
            for (Path path : files) {
                String name = path.getFileName().toString().replace(".java", "");
                same("it tells of " + name, readme.contains("`" + name), true);
            }
        }
    }

    public static void main(String[] args) throws IOException {
        test("README.md", ReadmeTest::program);
        test("README.md", ReadmeTest::calls);
        about("README.md");
        tests();
        end("ReadmeTest");
    }
}
