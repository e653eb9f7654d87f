import java.io.IOException;
import java.lang.reflect.Method;
import java.lang.reflect.Modifier;
import java.nio.file.Files;
import java.nio.file.Path;
import java.util.Arrays;
import java.util.List;
import java.util.regex.Matcher;
import java.util.regex.Pattern;
import java.util.stream.Collectors;

/** README.md, read from the folder of the project: its example, and its rows of calls. */
public final class ReadmeTest {
    private static final Check CHECK = new Check();

    public static void main(String[] args) throws IOException {
        List<String> lines = Files.readAllLines(Path.of("README.md"));
        answersAsTheExampleTells(lines);
        for (Method method : CurfewDesk.class.getDeclaredMethods()) {
            if (Modifier.isPublic(method.getModifiers())) {
                hasARow(lines, method);
            }
        }
        CHECK.finish();
    }

    private static void answersAsTheExampleTells(List<String> lines) {
        CurfewDesk desk = new CurfewDesk();
        int quarter = desk.addQuarter();
        int baker = desk.addPerson(3);
        int order = desk.addOrder(quarter, 2, 1, 0);
        tells(lines, "desk.mayGo(baker, quarter);", desk.mayGo(baker, quarter));
        tells(lines, "desk.goOut(baker, quarter);", desk.goOut(baker, quarter));
        tells(lines, "desk.givePass(baker, 0, 2);", desk.givePass(baker, 0, 2));
        tells(lines, "desk.goOut(baker, quarter);", desk.goOut(baker, quarter));
        tells(lines, "desk.halfHoursUntilFree(baker, quarter);",
                desk.halfHoursUntilFree(baker, quarter));
        tells(lines, "desk.pass(20);", desk.pass(20));
        tells(lines, "desk.isOn(order);", desk.isOn(order));
    }

    /** A line of the example begins with the call, and its comment with the answer. */
    private static void tells(List<String> lines, String call, Object answer) {
        Pattern line = Pattern.compile(Pattern.quote(call) + " *// " + answer + "\\b.*");
        if (lines.stream().noneMatch(each -> line.matcher(each).matches())) {
            CHECK.fail("README.md does not tell that " + call + " answers " + answer);
        }
    }

    /** One row, with so many arguments, and the exceptions in the order in which they come. */
    private static void hasARow(List<String> lines, Method method) {
        String name = method.getName();
        Pattern row = Pattern.compile("\\| `" + name + "\\(([^)]*)\\)` \\|.*\\| (.*?) ?\\|");
        int rows = 0;
        for (String line : lines) {
            Matcher matcher = row.matcher(line);
            if (matcher.matches()) {
                rows++;
                CHECK.is(name + ", arguments in README.md", method.getParameterCount(),
                        countOf(matcher.group(1)));
                CHECK.is(name + " throws in README.md what it throws", true,
                        thrownBy(method).equals(matcher.group(2)));
            }
        }
        CHECK.is(name + ", rows in README.md", 1, rows);
    }

    private static int countOf(String arguments) {
        return arguments.isEmpty() ? 0 : arguments.split(", ").length;
    }

    private static String thrownBy(Method method) {
        return Arrays.stream(method.getExceptionTypes())
                .map(type -> "`" + type.getSimpleName() + "`")
                .collect(Collectors.joining(", "));
    }
}
