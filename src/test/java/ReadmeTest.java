import java.lang.reflect.InvocationTargetException;
import java.lang.reflect.Method;
import java.nio.file.Files;
import java.nio.file.Path;
import java.util.Arrays;
import java.util.TreeSet;
import java.util.regex.Matcher;
import java.util.regex.Pattern;

/** The example of README.md: each call answers the number that stands beside it. */
public final class ReadmeTest {
    private static final Pattern EXAMPLE = Pattern.compile("(?s)```java\n(.*?)```");
    private static final Pattern SAID = Pattern.compile("for \\(char sign : \"([^\"]*)\"\\.toCharArray\\(\\)\\) desk\\.say\\(sign\\);");
    private static final Pattern CALL = Pattern.compile("desk\\.(\\w+)\\(([-0-9, ]*)\\); *// (-?\\d+).*");
    private static final String MADE = "RegisterDesk desk = new RegisterDesk();";

    private RegisterDesk desk = null;
    private int calls = 0;
    private int wrong = 0;

    private void follow(String line) throws ReflectiveOperationException {
        Matcher said = SAID.matcher(line);
        Matcher call = CALL.matcher(line);
        if (line.equals(MADE)) {
            desk = new RegisterDesk();
        } else if (desk != null && said.matches()) {
            for (char sign : said.group(1).toCharArray()) {
                desk.say(sign);
            }
        } else if (desk != null && call.matches()) {
            calls++;
            int got = answer(call.group(1), call.group(2));
            if (got != Integer.parseInt(call.group(3))) {
                complain(line + " answered " + got);
            }
        } else {
            complain("not understood: " + line);
        }
    }

    private int answer(String name, String numbers) throws ReflectiveOperationException {
        Object[] arguments = numbers.isBlank() ? new Object[0] : Arrays.stream(numbers.split(",")).map(one -> Integer.valueOf(one.strip())).toArray();
        Class<?>[] types = new Class<?>[arguments.length];
        Arrays.fill(types, int.class);
        try {
            return (Integer) RegisterDesk.class.getMethod(name, types).invoke(desk, arguments);
        } catch (InvocationTargetException thrown) {
            complain(name + " threw " + thrown.getCause());
            return Integer.MIN_VALUE;
        }
    }

    private void complain(String what) {
        wrong++;
        System.out.println(what);
    }

    /** A call that the text does not even name is not explained. */
    private void nameAll(String readme) {
        TreeSet<String> names = new TreeSet<>();
        for (Method method : RegisterDesk.class.getDeclaredMethods()) {
            if (java.lang.reflect.Modifier.isPublic(method.getModifiers())) {
                names.add(method.getName());
            }
        }
        for (String name : names) {
            if (!readme.contains("`" + name + "`")) {
                complain("README.md does not name " + name);
            }
        }
    }

    public static void main(String[] args) throws Exception {
        String readme = Files.readString(Path.of("README.md"));
        ReadmeTest test = new ReadmeTest();
        Matcher example = EXAMPLE.matcher(readme);
        while (example.find()) {
            for (String line : example.group(1).split("\n")) {
                test.follow(line.strip());
            }
        }
        test.nameAll(readme);
        if (test.calls == 0) {
            test.complain("README.md has no example");
        }
        System.out.println(test.calls + " calls of the example, " + test.wrong + " faults");
        if (test.wrong != 0) {
            System.exit(1);
        }
    }
}
