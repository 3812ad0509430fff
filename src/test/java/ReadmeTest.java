import java.io.IOException;
import java.lang.reflect.InvocationTargetException;
import java.lang.reflect.Method;
import java.lang.reflect.Modifier;
import java.nio.file.Files;
import java.nio.file.Path;
import java.util.ArrayList;
import java.util.List;
import java.util.regex.Matcher;
import java.util.regex.Pattern;

/** README.md tells each call of the face with its exceptions, and calls that answer as it says. */
public final class ReadmeTest {
    private static final Check CHECK = new Check("ReadmeTest");
    private static final Pattern CALL = Pattern.compile("line\\.(\\w+)\\((.*)\\);\\s*// (\\w+).*");
    private static final Pattern ROW =
            Pattern.compile("\\| `(\\w+ )?(\\w+)\\((.*)\\)` \\|(.+)\\|(.+)\\|");
    private static final Pattern EXCEPTION = Pattern.compile("\\w+Exception");

    public static void main(String[] args) throws Exception {
        List<String> lines = Files.readAllLines(Path.of("README.md"));
        examples(lines);
        table(lines);
        constants(lines);
        tests(lines);
        CHECK.end();
    }

    private static void examples(List<String> lines) throws Exception {
        int start = lines.indexOf("```java");
        List<String> inside = lines.subList(start + 1, lines.size());
        LineCoder line = new LineCoder();
        List<String> called = new ArrayList<>();
        for (String text : inside.subList(1, inside.indexOf("```"))) {
            if (!text.isEmpty()) {
                called.add(example(line, text));
            }
        }
        is("the first line makes an object",
                inside.get(0).equals("LineCoder line = new LineCoder();"));
        for (Method method : face()) {
            is("an example calls " + method.getName(), called.contains(method.getName()));
        }
    }

    private static String example(LineCoder line, String text) throws Exception {
        Matcher call = CALL.matcher(text);
        is("a call and its answer: " + text, call.matches());
        Method method = named(call.group(1));
        String got = answer(line, method, call.group(2));
        if (method.getReturnType() != void.class) {
            is(text + " answered " + got, got.equals(call.group(3)));
        }
        return method.getName();
    }

    private static String answer(LineCoder line, Method method, String told) throws Exception {
        String[] texts = told.isEmpty() ? new String[0] : told.split(", ");
        Object[] arguments = new Object[texts.length];
        for (int i = 0; i < texts.length; i++) {
            arguments[i] = argument(method.getParameterTypes()[i], texts[i]);
        }
        try {
            return named(method.getName(), method.invoke(line, arguments));
        } catch (InvocationTargetException e) {
            return e.getCause().getClass().getSimpleName();
        }
    }

    private static Object argument(Class<?> type, String text) {
        if (type == boolean.class) {
            return Boolean.valueOf(text);
        }
        if (type == long.class) {
            return Long.valueOf(text.replace("L", ""));
        }
        return Integer.valueOf(text);
    }

    // Only steps and look-ups answer with these names; elsewhere a number is a number.
    private static String named(String method, Object answer) {
        String text = String.valueOf(answer);
        if (!List.of("symbol", "receive", "take", "bit").contains(method)) {
            return text;
        }
        switch (text) {
            case "-1": return "NONE";
            case "-2": return "BAD";
            case "-3": return "SLIP";
            default: return text;
        }
    }

    private static void table(List<String> lines) {
        List<String> told = new ArrayList<>();
        for (String text : lines) {
            Matcher row = ROW.matcher(text);
            if (row.matches()) {
                told.add(told(row));
            }
        }
        is("the constructor has a row", told.contains("LineCoder() throws"));
        for (Method method : face()) {
            is("a row tells " + due(method) + " of " + told, told.contains(due(method)));
        }
        CHECK.same("rows of calls", told.size(), face().size() + 1);
    }

    private static String told(Matcher row) {
        StringBuilder text = new StringBuilder();
        text.append(row.group(1) == null ? "" : row.group(1)).append(row.group(2)).append('(');
        text.append(row.group(3).replaceAll("(\\w+) \\w+", "$1")).append(") throws");
        Matcher thrown = EXCEPTION.matcher(row.group(5));
        while (thrown.find()) {
            text.append(' ').append(thrown.group());
        }
        return text.toString();
    }

    private static String due(Method method) {
        StringBuilder text = new StringBuilder(method.getReturnType().getSimpleName());
        text.append(' ').append(method.getName()).append('(');
        String gap = "";
        for (Class<?> parameter : method.getParameterTypes()) {
            text.append(gap).append(parameter.getSimpleName());
            gap = ", ";
        }
        text.append(") throws");
        for (Class<?> thrown : method.getExceptionTypes()) {
            text.append(' ').append(thrown.getSimpleName());
        }
        return text.toString();
    }

    private static void constants(List<String> lines) {
        String page = String.join("\n", lines);
        is("NONE", page.contains("`NONE` is " + LineCoder.NONE));
        is("BAD", page.contains("`BAD` is " + LineCoder.BAD));
        is("SLIP", page.contains("`SLIP` is " + LineCoder.SLIP));
    }

    private static void tests(List<String> lines) throws IOException {
        is("the command that runs the tests", lines.contains(".ci/run"));
        is("that command can be run", Files.isExecutable(Path.of(".ci/run")));
        try (var files = Files.list(Path.of("src/test/java"))) {
            for (Path file : (Iterable<Path>) files::iterator) {
                String name = file.getFileName().toString().replace(".java", "");
                is("it tells of " + name, String.join("\n", lines).contains("`" + name + "`"));
            }
        }
    }

    private static List<Method> face() {
        List<Method> open = new ArrayList<>();
        for (Method method : LineCoder.class.getDeclaredMethods()) {
            if (Modifier.isPublic(method.getModifiers())) {
                open.add(method);
            }
        }
        return open;
    }

    private static Method named(String name) {
        for (Method method : face()) {
            if (method.getName().equals(name)) {
                return method;
            }
        }
        throw new IllegalArgumentException("no call " + name);
    }

    private static void is(String what, boolean got) {
        CHECK.same(what, got, true);
    }
}
