import java.io.ByteArrayOutputStream;
import java.io.PrintStream;
import java.lang.reflect.Method;
import java.lang.reflect.Modifier;
import java.nio.file.Files;
import java.nio.file.Path;

/** README.md tells the example and what it prints, word by word, and names every method of the class. */
public final class ReadmeTest {
    private static final Due DUE = new Due();

    public static void main(String[] args) throws Exception {
        Path checkout = Path.of(args[0]);
        String readme = Files.readString(checkout.resolve("README.md"));
        String example = Files.readString(checkout.resolve("src/test/java/Example.java"));
        DUE.due("README.md tells Example.java", readme.contains("```java\n" + example + "```\n"), true);
        DUE.due("README.md tells what it prints", readme.contains("```text\n" + printed() + "```\n"), true);
        for (Method m : WorkChains.class.getDeclaredMethods()) {
            if (!Modifier.isPublic(m.getModifiers())) continue;
            boolean named = readme.contains("`" + m.getName() + "`") || readme.contains("`" + m.getName() + "(");
            DUE.due("README.md names " + m.getName(), named, true);
        }
        DUE.close("ReadmeTest");
    }

    private static String printed() {
        PrintStream out = System.out;
        ByteArrayOutputStream heard = new ByteArrayOutputStream();
        System.setOut(new PrintStream(heard, true));
        try {
            Example.main(new String[0]);
        } finally {
            System.setOut(out);
        }
        return heard.toString().replace("\r", "");
    }
}
