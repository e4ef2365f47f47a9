import java.io.IOException;
import java.lang.reflect.Method;
import java.lang.reflect.Modifier;
import java.nio.charset.StandardCharsets;
import java.nio.file.Files;
import java.nio.file.Path;
import java.util.Arrays;
import java.util.List;
import java.util.regex.Matcher;
import java.util.regex.Pattern;
import java.util.stream.Collectors;
import java.util.stream.Stream;

/** README.md: its examples answer what it says, and it names every call, every test and how they are run. */
public final class ReadmeTest {
    private static final Pattern BLOCK = Pattern.compile("(?s)```java\n(.*?)```");
    /** A new object; a text told to it; a call: the last two with what is answered behind //. */
    private static final Pattern STEP = Pattern.compile("(new SightedMonths\\(\\))"
        + "|^tell\\(x, ((?:\"[^\"]*\"\\s*\\+?\\s*)+)\\);\\s*// (-?\\d+)"
        + "|^x\\.(\\w+)\\(([-\\d, ]*)\\);\\s*// (-?\\d+)", Pattern.MULTILINE);

    private static int steps = 0;
    private static int wrong = 0;

    private ReadmeTest() {
    }

    public static void main(String[] args) throws IOException {
        String page = Files.readString(Path.of("README.md"), StandardCharsets.UTF_8);
        Matcher blocks = BLOCK.matcher(page);
        while (blocks.find()) {
            run(blocks.group(1));
        }
        must(steps >= 30, "there are examples");
        namesCalls(page);
        namesTests(page);
        System.out.println("ReadmeTest: " + steps + " steps, " + wrong + " wrong");
        System.exit(wrong == 0 ? 0 : 1);
    }

    private static void must(boolean holds, String what) {
        if (!holds) {
            wrong++;
            System.out.println("not so: " + what);
        }
    }

    private static void run(String block) {
        SightedMonths x = new SightedMonths();
        Matcher step = STEP.matcher(block);
        int found = 0;
        while (step.find()) {
            if (step.group(1) != null) {
                x = new SightedMonths();
            } else if (step.group(2) != null) {
                due(step.group(), Integer.parseInt(step.group(3)), Texts.tell(x, text(step.group(2))));
                found++;
            } else {
                due(step.group(), Integer.parseInt(step.group(6)), Calls.call(x, step.group(4), numbers(step.group(5))));
                found++;
            }
        }
        int written = block.split("(?m)^(x\\.|tell\\()", -1).length - 1;
        must(found == written, "every call has its answer in:\n" + block);
    }

    private static void due(String step, int want, int got) {
        steps++;
        must(want == got, step + " (answered " + got + ")");
    }

    private static String text(String joined) {
        Matcher parts = Pattern.compile("\"([^\"]*)\"").matcher(joined);
        StringBuilder text = new StringBuilder();
        while (parts.find()) {
            text.append(parts.group(1));
        }
        return text.toString();
    }

    private static int[] numbers(String list) {
        return list.isBlank() ? new int[0] : Arrays.stream(list.split(",")).mapToInt(n -> Integer.parseInt(n.trim())).toArray();
    }

    /** With the names of its numbers, as the source has them. */
    private static void namesCalls(String page) throws IOException {
        String source = Files.readString(Path.of("src/main/java/SightedMonths.java"), StandardCharsets.UTF_8);
        for (Method method : SightedMonths.class.getDeclaredMethods()) {
            if (Modifier.isPublic(method.getModifiers())) {
                Matcher face = Pattern.compile("public int (" + method.getName() + "\\([^)]*\\))").matcher(source);
                must(face.find(), method + " stands in the source");
                String call = "`" + face.group(1).replace("int ", "") + "`";
                must(page.contains(call), "it names " + call);
            }
        }
    }

    private static void namesTests(String page) throws IOException {
        List<String> tests;
        try (Stream<Path> files = Files.list(Path.of("src/test/java"))) {
            tests = files.map(f -> f.getFileName().toString()).filter(n -> n.endsWith("Test.java"))
                .map(n -> n.replace(".java", "")).collect(Collectors.toList());
        }
        for (String test : tests) {
            must(page.contains("`" + test + "`"), "it names " + test);
        }
        must(page.contains(".ci/run"), "it says how the tests are run");
    }
}
