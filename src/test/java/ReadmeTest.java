import java.io.IOException;
import java.lang.reflect.Method;
import java.lang.reflect.Modifier;
import java.nio.file.Files;
import java.nio.file.Path;
import java.util.ArrayList;
import java.util.List;
import java.util.regex.Matcher;
import java.util.regex.Pattern;
import java.util.stream.Stream;

/** README.md: its examples answer what they say, it has every call of the face and every test. */
public final class ReadmeTest {
    private static final Pattern MADE = Pattern.compile("BeepHouse x = new BeepHouse\\(\\);");
    private static final Pattern TYPED = Pattern.compile("for \\(char c : \"([^\"]*)\"\\.toCharArray\\(\\)\\) x\\.type\\(c\\);");
    private static final Pattern CALLED = Pattern.compile("x\\.(\\w+)\\(([^)]*)\\); +// (-?\\d+): .*");
    private static final Pattern IN_THE_FACE = Pattern.compile("    public (?:int|long) (\\w+)\\(([^)]*)\\) \\{");
    private static int wrong = 0;

    public static void main(String[] args) throws IOException, ReflectiveOperationException {
        String readme = Files.readString(Path.of("README.md"));
        examples(readme);
        calls(readme, Files.readString(Path.of("src/main/java/BeepHouse.java")));
        tests(readme);
        System.out.println(wrong == 0 ? "ReadmeTest: README.md tells how it is" : "ReadmeTest: " + wrong + " faults in README.md");
        if (wrong != 0) {
            System.exit(1);
        }
    }

    private static void due(boolean holds, String what) {
        if (!holds) {
            wrong++;
            System.out.println("README.md: " + what);
        }
    }

    private static void examples(String readme) throws ReflectiveOperationException {
        Matcher block = Pattern.compile("```java\n(.*?)```", Pattern.DOTALL).matcher(readme);
        int answers = 0;
        while (block.find()) {
            BeepHouse x = null;
            for (String line : block.group(1).split("\n")) {
                Matcher typed = TYPED.matcher(line);
                Matcher called = CALLED.matcher(line);
                if (MADE.matcher(line).matches()) {
                    x = new BeepHouse();
                } else if (x != null && typed.matches()) {
                    typed.group(1).chars().forEach(x::type);
                } else if (x != null && called.matches()) {
                    answers++;
                    long got = answerOf(x, called.group(1), called.group(2));
                    due(got == Long.parseLong(called.group(3)), line + " (answered " + got + ")");
                } else {
                    due(false, "a line that is no call: " + line);
                }
            }
        }
        due(answers > 0, "it has no example");
    }

    private static long answerOf(BeepHouse x, String name, String given) throws ReflectiveOperationException {
        List<Object> numbers = new ArrayList<>();
        for (String one : given.isEmpty() ? new String[0] : given.split(", ")) {
            numbers.add(one.equals("BeepHouse.NONE") ? BeepHouse.NONE : Integer.parseInt(one));
        }
        for (Method m : BeepHouse.class.getDeclaredMethods()) {
            if (m.getName().equals(name) && Modifier.isPublic(m.getModifiers()) && m.getParameterCount() == numbers.size()) {
                return ((Number) m.invoke(x, numbers.toArray())).longValue();
            }
        }
        throw new NoSuchMethodException(name);
    }

    /** That the class has just the document's face is for RulesTest to look at. */
    private static void calls(String readme, String source) {
        Matcher m = IN_THE_FACE.matcher(source);
        int found = 0;
        while (m.find()) {
            found++;
            String call = m.group(1) + "(" + m.group(2).replace("int ", "") + ")";
            due(readme.contains("\n| `" + call + "` | "), "the call " + call + " is left out");
        }
        due(found == 36, "the face has " + found + " calls");
    }

    private static void tests(String readme) throws IOException {
        due(readme.contains("\n    .ci/run\n"), "how to run the tests is left out");
        try (Stream<Path> files = Files.list(Path.of("src/test/java"))) {
            files.map(f -> f.getFileName().toString().replace(".java", ""))
                .forEach(name -> due(readme.contains("\n- `" + name + "`: "), "the test " + name + " is left out"));
        }
    }
}
