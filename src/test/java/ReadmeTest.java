import java.io.IOException;
import java.lang.reflect.InvocationTargetException;
import java.lang.reflect.Method;
import java.lang.reflect.Modifier;
import java.nio.file.Files;
import java.nio.file.Path;
import java.util.ArrayList;
import java.util.HashMap;
import java.util.List;
import java.util.Map;
import java.util.Set;
import java.util.TreeSet;
import java.util.regex.Matcher;
import java.util.regex.Pattern;

/** README.md's example answers as its comments say, and each call stands in README.md with what it throws. */
public final class ReadmeTest {
    private static final Expect EXPECT = new Expect();
    private static final Pattern LINE = Pattern.compile(
            "(?:int (\\w+) = )?rows\\.(\\w+)\\((.*?)\\); *// (?:throws (\\w+)|(-?\\d+))(?::.*)?");
    private static final Pattern SECTION = Pattern.compile(
            "### `(\\w+)\\((.*?)\\)`\n(.*?)(?=\n##|\\z)", Pattern.DOTALL);
    private static final Pattern EXCEPTION = Pattern.compile("`(\\w+Exception)`");

    private final StructureRows rows = new StructureRows();
    private final Map<String, Integer> variables = new HashMap<>();
    private final Set<String> used = new TreeSet<>();

    public static void main(String[] args) throws IOException, IllegalAccessException {
        String readme = Files.readString(Path.of("README.md"));
        new ReadmeTest().followExample(readme);
        compareCalls(readme);
        EXPECT.end();
    }

    private void followExample(String readme) throws IllegalAccessException {
        int start = readme.indexOf("```java\n");
        int end = readme.indexOf("```", start + 3);
        if (start < 0 || end < 0) {
            EXPECT.complain("README.md", "has no example");
            return;
        }
        String[] lines = readme.substring(start, end).split("\n");
        for (int i = 1; i < lines.length; i++) {
            Matcher line = LINE.matcher(lines[i]);
            if (line.matches()) {
                makeCall(line);
            } else if (!lines[i].equals("StructureRows rows = new StructureRows();")) {
                EXPECT.complain(lines[i], "is no call with its answer");
            }
        }
        for (Method method : publicMethods()) {
            if (!used.contains(method.getName())) {
                EXPECT.complain(method.getName(), "is not in README.md's example");
            }
        }
    }

    private void makeCall(Matcher line) throws IllegalAccessException {
        String call = line.group();
        String due = line.group(4) == null ? line.group(5) : line.group(4);
        String got = answerOf(line.group(2), line.group(3).split(", *"));
        if (!due.equals(got)) {
            EXPECT.complain(call, "answered " + got);
        } else if (line.group(1) != null) {
            variables.put(line.group(1), Integer.parseInt(got));
        }
        used.add(line.group(2));
    }

    private String answerOf(String name, String[] texts) throws IllegalAccessException {
        for (Method method : publicMethods()) {
            if (method.getName().equals(name)) {
                Object[] given = new Object[method.getParameterCount()];
                for (int i = 0; i < given.length; i++) {
                    given[i] = valueOf(texts[i]);
                }
                try {
                    return method.invoke(rows, given).toString();
                } catch (InvocationTargetException thrown) {
                    return thrown.getCause().getClass().getSimpleName();
                }
            }
        }
        return "nothing, there is no such call";
    }

    private Object valueOf(String text) {
        if (text.equals("true") || text.equals("false")) {
            return Boolean.valueOf(text);
        }
        return variables.containsKey(text) ? variables.get(text) : Integer.valueOf(text);
    }

    private static void compareCalls(String readme) {
        Set<String> told = new TreeSet<>();
        Matcher section = SECTION.matcher(readme);
        while (section.find()) {
            List<String> thrown = new ArrayList<>();
            Matcher exception = EXCEPTION.matcher(section.group(3));
            while (exception.find()) {
                thrown.add(exception.group(1));
            }
            int parameters = section.group(2).isEmpty() ? 0 : section.group(2).split(",").length;
            told.add(section.group(1) + " of " + parameters + " throws " + thrown);
        }
        Set<String> due = new TreeSet<>();
        due.add("StructureRows of 0 throws []");
        for (Method method : publicMethods()) {
            List<String> thrown = new ArrayList<>();
            for (Class<?> type : method.getExceptionTypes()) {
                thrown.add(type.getSimpleName());
            }
            due.add(method.getName() + " of " + method.getParameterCount() + " throws " + thrown);
        }
        if (!told.equals(due)) {
            EXPECT.complain("README.md", "tells of " + told + ", due is " + due);
        }
    }

    private static List<Method> publicMethods() {
        List<Method> found = new ArrayList<>();
        for (Method method : StructureRows.class.getDeclaredMethods()) {
            if (Modifier.isPublic(method.getModifiers())) {
                found.add(method);
            }
        }
        return found;
    }
}
