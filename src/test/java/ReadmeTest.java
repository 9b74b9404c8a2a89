import java.io.IOException;
import java.lang.reflect.Method;
import java.lang.reflect.Modifier;
import java.net.URL;
import java.net.URLClassLoader;
import java.nio.file.Files;
import java.nio.file.Path;
import java.util.ArrayList;
import java.util.List;
import java.util.Set;
import java.util.TreeSet;
import java.util.regex.Matcher;
import java.util.regex.Pattern;
import javax.tools.JavaCompiler;
import javax.tools.ToolProvider;

/** What README.md shows as an answer is what the class answers: its code is compiled and run, its tables are read. */
public final class ReadmeTest {
    private static final Check CHECK = new Check();
    private static final Path FOLDER = Path.of("build", "readme");

    private static final Pattern SHOWN = Pattern.compile("(.*?)(shelves\\.\\w+\\(.*\\)); +// (-?\\d+)(:.*)?");
    private static final Pattern CALL = Pattern.compile("`(\\w+)\\(");
    private static final Pattern ERROR = Pattern.compile("\\| `([A-Z_]+)` \\| (-?\\d+) \\|.*");
    private static final Pattern SETTING = Pattern.compile("\\| (\\d+) \\| (\\d+) \\| (\\d+) \\| (\\d+) \\|.*");

    public static void main(String[] args) throws IOException, ReflectiveOperationException {
        List<String> lines = Files.readAllLines(Path.of("README.md"));
        checkCode(between(lines, "```java", "```"));
        checkCalls(between(lines, "### The calls", "`what` is"));
        checkSettings(between(lines, "### Settings", "### Orders in the text"));
        checkErrors(between(lines, "### Errors", "## How to run its tests"));
        CHECK.end();
    }

    private static List<String> between(List<String> lines, String start, String end) {
        int first = lines.indexOf(start) + 1;
        List<String> rest = lines.subList(first, lines.size());
        int count = rest.indexOf(end);
        CHECK.holds("README.md has a part from " + start + " to " + end, first > 0 && count > 0);
        return count > 0 ? rest.subList(0, count) : List.of();
    }

    private static void checkCode(List<String> code) throws IOException, ReflectiveOperationException {
        CHECK.part("code");
        List<String> calls = new ArrayList<>();
        List<Integer> shown = new ArrayList<>();
        StringBuilder body = new StringBuilder();
        for (String line : code) {
            Matcher matcher = SHOWN.matcher(line);
            if (matcher.matches()) {
                calls.add(matcher.group(2));
                shown.add(Integer.valueOf(matcher.group(3)));
                body.append(matcher.group(1)).append("answered(").append(matcher.group(2)).append(");\n");
            } else {
                CHECK.holds("an answer is shown behind " + line, !line.startsWith("shelves.") && !line.contains("//"));
                body.append(line).append('\n');
            }
        }
        List<Integer> answers = run(body);
        CHECK.due("answers", answers.size(), shown.size());
        for (int i = 0; i < answers.size() && i < shown.size(); i++) {
            CHECK.due(calls.get(i), answers.get(i), shown.get(i));
        }
    }

    private static List<Integer> run(StringBuilder body) throws IOException, ReflectiveOperationException {
        Files.createDirectories(FOLDER);
        Path source = FOLDER.resolve("ReadmeCode.java");
        Files.writeString(source, "import java.util.ArrayList;\nimport java.util.List;\n\n"
            + "public final class ReadmeCode {\n"
            + "private static final List<Integer> ANSWERS = new ArrayList<>();\n"
            + "private static int answered(int answer) {\nANSWERS.add(answer);\nreturn answer;\n}\n"
            + "public static List<Integer> run() {\n" + body + "return ANSWERS;\n}\n}\n");
        JavaCompiler compiler = ToolProvider.getSystemJavaCompiler();
        String path = System.getProperty("java.class.path");
        int failed = compiler.run(null, null, null, "-cp", path, "-d", FOLDER.toString(), source.toString());
        CHECK.due("the compiler", failed, 0);
        List<Integer> answers = new ArrayList<>();
        if (failed == 0) {
            try (URLClassLoader loader = new URLClassLoader(new URL[] {FOLDER.toUri().toURL()})) {
                Object run = loader.loadClass("ReadmeCode").getMethod("run").invoke(null);
                for (Object answer : (List<?>) run) {
                    answers.add((Integer) answer);
                }
            }
        }
        return answers;
    }

    private static void checkCalls(List<String> table) {
        CHECK.part("calls");
        Set<String> told = new TreeSet<>();
        for (String row : table) {
            Matcher matcher = CALL.matcher(row);
            while (matcher.find()) {
                told.add(matcher.group(1));
            }
        }
        Set<String> there = new TreeSet<>();
        for (Method method : HeatShelves.class.getDeclaredMethods()) {
            if (Modifier.isPublic(method.getModifiers())) {
                there.add(method.getName());
            }
        }
        CHECK.holds(told + " are " + there, told.equals(there));
    }

    private static void checkSettings(List<String> table) {
        CHECK.part("settings");
        int rows = 0;
        for (String row : table) {
            Matcher matcher = SETTING.matcher(row);
            if (matcher.matches()) {
                int setting = Integer.parseInt(matcher.group(1));
                HeatShelves x = new HeatShelves();
                CHECK.due("the setting in its row", setting, rows);
                CHECK.due(row + " at first", x.total(setting), Integer.parseInt(matcher.group(4)));
                int least = Integer.parseInt(matcher.group(2));
                int greatest = Integer.parseInt(matcher.group(3));
                checkRange(row, x, setting, least, greatest);
                rows++;
            }
        }
        CHECK.due("rows", rows, 15);
    }

    private static void checkRange(String row, HeatShelves x, int setting, int least, int greatest) {
        if (setting == 1) {
            x.set(2, least);
        } else if (setting == 2) {
            x.set(1, greatest);
        }
        CHECK.due(row + " below", x.set(setting, least - 1), HeatShelves.OUT_OF_RANGE);
        CHECK.due(row + " above", x.set(setting, greatest + 1), HeatShelves.OUT_OF_RANGE);
        x.set(setting, least);
        CHECK.due(row + " least", x.total(setting), least);
        x.set(setting, greatest);
        CHECK.due(row + " greatest", x.total(setting), greatest);
    }

    private static void checkErrors(List<String> table) throws ReflectiveOperationException {
        CHECK.part("errors");
        int rows = 0;
        for (String row : table) {
            Matcher matcher = ERROR.matcher(row);
            if (matcher.matches()) {
                int value = HeatShelves.class.getField(matcher.group(1)).getInt(null);
                CHECK.due(row, value, Integer.parseInt(matcher.group(2)));
                rows++;
            }
        }
        CHECK.due("rows", rows, 5);
    }
}
