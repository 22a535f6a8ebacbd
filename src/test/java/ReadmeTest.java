import java.io.IOException;
import java.lang.reflect.Method;
import java.nio.charset.StandardCharsets;
import java.nio.file.Files;
import java.nio.file.Path;
import java.util.List;
import java.util.Set;
import java.util.TreeSet;
import java.util.regex.Matcher;
import java.util.regex.Pattern;
import java.util.stream.Collectors;
import java.util.stream.Stream;

/** Whether what README.md says is so: the answers of its calls, the tests and the classes that it names. */
public final class ReadmeTest {
    private static final Due DUE = new Due("ReadmeTest");

    public static void main(String[] args) throws IOException, ReflectiveOperationException {
        String page = Files.readString(Path.of("README.md"), StandardCharsets.UTF_8);
        answers(page);
        tests(page);
        classes(page.substring(page.indexOf("## How the class is made")));
        DUE.end();
    }

    private static void answers(String page) throws ReflectiveOperationException {
        SaltRooms x = new SaltRooms();
        Matcher lines = Pattern.compile("\nx\\.(\\w+)\\((.*?)\\);\\s+// (-?\\d+)").matcher(page);
        int calls = 0;
        while (lines.find()) {
            String[] numbers = lines.group(2).isEmpty() ? new String[0] : lines.group(2).split(", ");
            long got = ((Number) call(x, lines.group(1), numbers)).longValue();
            DUE.is(lines.group().trim(), got, Long.parseLong(lines.group(3)));
            calls++;
        }
        DUE.is("all calls were read", calls, page.split("\nx\\.", -1).length - 1);
        DUE.is("there are some", calls > 10 ? 1 : 0, 1);
    }

    private static Object call(SaltRooms x, String name, String[] numbers) throws ReflectiveOperationException {
        for (Method method : SaltRooms.class.getMethods()) {
            if (method.getName().equals(name) && method.getDeclaringClass() == SaltRooms.class) {
                Object[] told = new Object[numbers.length];
                for (int i = 0; i < told.length; i++) {
                    told[i] = number(numbers[i], method.getParameterTypes()[i]);
                }
                return method.invoke(x, told);
            }
        }
        throw new NoSuchMethodException(name);
    }

    private static Object number(String text, Class<?> type) {
        if (type == boolean.class) {
            return text.equals("true");
        }
        long value = Long.decode(text.replace("L", ""));
        if (type == long.class) {
            return value;
        }
        return (int) value;
    }

    private static void tests(String page) throws IOException {
        Set<String> told = new TreeSet<>();
        Matcher rows = Pattern.compile("\n\\| (\\w+Test) \\|").matcher(page);
        while (rows.find()) {
            told.add(rows.group(1));
        }
        Set<String> helpers = new TreeSet<>();
        try (Stream<Path> files = Files.list(Path.of("src/test/java"))) {
            List<String> names = files.map(f -> f.getFileName().toString().replace(".java", ""))
                    .collect(Collectors.toList());
            for (String name : names) {
                if (name.endsWith("Test")) {
                    DUE.is(name + " is told of", told.remove(name) ? 1 : 0, 1);
                } else {
                    helpers.add(name);
                }
            }
        }
        DUE.is("tests that are not there: " + told, told.size(), 0);
        for (String helper : helpers) {
            DUE.is(helper + " is told of", page.contains("`" + helper + "`") ? 1 : 0, 1);
        }
    }

    private static void classes(String part) {
        for (Class<?> inside : SaltRooms.class.getDeclaredClasses()) {
            String name = inside.getSimpleName();
            DUE.is(name + " is told of", part.contains("`" + name + "`") ? 1 : 0, 1);
        }
    }
}
