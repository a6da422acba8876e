import java.io.File;
import java.io.IOException;
import java.lang.reflect.Method;
import java.nio.file.Files;
import java.nio.file.Path;
import java.util.ArrayList;
import java.util.List;
import java.util.regex.Matcher;
import java.util.regex.Pattern;

/** README.md says how to use the class: its example answers what it says, and no call and no test goes unnamed. */
public final class ReadmeTest {

    private static final Check CHECK = new Check();

    private static String block(String page, String language) {
        Matcher m = Pattern.compile("(?s)```" + language + "\n(.*?)```").matcher(page);
        return m.find() ? m.group(1) : "";
    }

    private static void example(String page) {
        Matcher line = Pattern.compile("(?m)^x\\.(\\w+\\([^()]*\\)); +// (-?[0-9]+): .*$").matcher(block(page, "java"));
        List<String> calls = new ArrayList<>();
        while (line.find()) {
            boolean refused = line.group(2).equals("-2");
            calls.add(line.group(1) + " = " + (refused ? "BAD" : line.group(2)));
        }
        int lines = block(page, "java").split("\n").length;
        CHECK.due("lines of the example that could be asked, but for the first", calls.size(), lines - 1);
        CHECK.sentence(1, "README's example", String.join("\n", calls));
    }

    private static void text(String page) {
        String text = block(page, "text").strip();
        CHECK.promise(7, "README's text");
        CHECK.due("read() of " + text, Check.told(new RasherCase(), text), 6);
    }

    private static void names(String page) {
        CHECK.promise(1, "README's names");
        for (Method m : RasherCase.class.getMethods()) {
            if (m.getDeclaringClass() == RasherCase.class) {
                Matcher call = Pattern.compile("`" + m.getName() + "\\(([^()`]*)\\)`").matcher(page);
                boolean named = call.find();
                CHECK.holds(m.getName() + " is named", named);
                if (named) {
                    int numbers = call.group(1).isEmpty() ? 0 : call.group(1).split(",").length;
                    CHECK.due("numbers of " + m.getName(), numbers, m.getParameterCount());
                }
            }
        }
        File[] files = new File("src/test/java").listFiles();
        CHECK.holds("there are tests", files != null && files.length > 0);
        if (files != null) {
            for (File file : files) {
                String name = file.getName().replace(".java", "");
                CHECK.holds(name + " is named", !name.endsWith("Test") || page.contains("`" + name + "`"));
            }
        }
    }

    public static void main(String[] args) throws IOException {
        String page = Files.readString(Path.of("README.md"));
        example(page);
        text(page);
        names(page);
        CHECK.end("ReadmeTest");
    }
}
