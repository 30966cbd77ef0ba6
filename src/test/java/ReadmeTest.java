import java.lang.reflect.Method;
import java.lang.reflect.Modifier;
import java.nio.file.Files;
import java.nio.file.Path;
import java.util.regex.Matcher;
import java.util.regex.Pattern;

/** The examples of README.md answer what it says, and its table names every call. */
public final class ReadmeTest {
    private static final Due DUE = new Due("ReadmeTest");
    private static final Pattern BLOCK = Pattern.compile("```java\n(.*?)```", Pattern.DOTALL);
    private static final Pattern CALL = Pattern.compile("man\\.(\\w+\\(.*\\)); +// (-?\\d+): .*");
    private static final Pattern TELL = Pattern.compile("tell\\(man, \"(.*)\"\\); +// (-?\\d+): .*");
    private static final String MAKES = "LightMan man = new LightMan();";

    private static void example(String line, LightMan man) {
        Matcher call = CALL.matcher(line);
        Matcher tell = TELL.matcher(line);
        if (call.matches()) {
            DUE.is(Long.parseLong(call.group(2)), Calls.answer(man, call.group(1)), line);
        } else if (tell.matches()) {
            DUE.is(Long.parseLong(tell.group(2)), Due.tell(man, tell.group(1)), line);
        } else {
            DUE.holds(false, "'" + line + "' is a call with its answer: that");
        }
    }

    /** How many blocks there are that make an object; others only define something. */
    private static int examples(String readme) {
        Matcher blocks = BLOCK.matcher(readme);
        int made = 0;
        while (blocks.find()) {
            String[] lines = blocks.group(1).split("\n");
            if (!lines[0].equals(MAKES)) {
                continue;
            }
            made++;
            LightMan man = new LightMan();
            for (int i = 1; i < lines.length; i++) {
                example(lines[i], man);
            }
        }
        return made;
    }

    private static void table(String readme) {
        for (Method method : LightMan.class.getDeclaredMethods()) {
            if (Modifier.isPublic(method.getModifiers())) {
                DUE.holds(Pattern.compile("\\|.*`" + method.getName() + "`.*\\|").matcher(readme).find(),
                    "the table has " + method.getName() + ": that");
            }
        }
    }

    public static void main(String[] args) throws Exception {
        String readme = Files.readString(Path.of(System.getProperty("project.root", "."), "README.md"));
        DUE.about("examples").is(5, examples(readme), "how many examples");
        table(readme);
        DUE.end();
    }
}
