import java.io.File;
import java.io.IOException;
import java.lang.reflect.InvocationTargetException;
import java.lang.reflect.Method;
import java.lang.reflect.Modifier;
import java.nio.file.Files;
import java.nio.file.Path;
import java.util.Set;
import java.util.TreeSet;
import java.util.regex.Matcher;
import java.util.regex.Pattern;

/** README.md: its rows of Java answer as they say, for each call of the face; its table names each test. */
public final class ReadmeTest {
    private static final Due DUE = new Due("ReadmeTest");
    private static final Pattern BLOCK = Pattern.compile("(?s)```java\n(.*?)```");
    private static final Pattern NEW_ONE = Pattern.compile("CreasedPaper paper = new CreasedPaper\\((\\d+)\\);.*");
    private static final Pattern CALL = Pattern.compile("paper\\.(\\w+)\\((.*?)\\);\\s+// (-?\\d+|true|false)(:.*)?");
    private static final Pattern TEST_ROW = Pattern.compile("(?m)^\\| (\\w+Test) \\|");

    private final Set<String> called = new TreeSet<>();
    private CreasedPaper paper;

    public static void main(String[] args) throws IOException, ReflectiveOperationException {
        String page = Files.readString(Path.of("README.md"));
        ReadmeTest test = new ReadmeTest();
        Matcher block = BLOCK.matcher(page);
        while (block.find()) {
            test.paper = null;
            for (String row : block.group(1).split("\n")) {
                test.doRow(row);
            }
        }
        test.allAreCalled();
        tableIsWhole(page);
        DUE.end();
    }

    private void doRow(String row) throws ReflectiveOperationException {
        Matcher made = NEW_ONE.matcher(row);
        Matcher call = CALL.matcher(row);
        if (made.matches()) {
            paper = new CreasedPaper(Integer.parseInt(made.group(1)));
        } else if (paper != null && call.matches()) {
            called.add(call.group(1));
            DUE.same(row, answer(call.group(1), call.group(2)), call.group(3));
        } else {
            DUE.same("a row that isn't understood", row, "");
        }
    }

    private String answer(String name, String told) throws ReflectiveOperationException {
        String[] words = told.isEmpty() ? new String[0] : told.split(", ");
        for (Method method : CreasedPaper.class.getDeclaredMethods()) {
            if (method.getName().equals(name) && method.getParameterCount() == words.length) {
                Object[] values = new Object[words.length];
                for (int i = 0; i < words.length; i++) {
                    values[i] = value(words[i]);
                }
                return invoked(method, values);
            }
        }
        return "there is no " + name + " of " + words.length;
    }

    private String invoked(Method method, Object[] values) throws ReflectiveOperationException {
        try {
            return String.valueOf(method.invoke(paper, values));
        } catch (InvocationTargetException e) {
            return String.valueOf(e.getCause());
        }
    }

    private static Object value(String word) {
        if (word.equals("true") || word.equals("false")) {
            return Boolean.valueOf(word);
        }
        return word.equals("CreasedPaper.NONE") ? CreasedPaper.NONE : Long.decode(word).intValue();
    }

    private void allAreCalled() {
        for (Method method : CreasedPaper.class.getDeclaredMethods()) {
            if (Modifier.isPublic(method.getModifiers())) {
                DUE.is("README.md has a row for " + method.getName(), called.contains(method.getName()), true);
            }
        }
    }

    private static void tableIsWhole(String page) {
        Set<String> rows = new TreeSet<>();
        Matcher row = TEST_ROW.matcher(page);
        while (row.find()) {
            rows.add(row.group(1));
        }
        Set<String> files = new TreeSet<>();
        for (File file : new File("src/test/java").listFiles()) {
            if (file.getName().endsWith("Test.java")) {
                files.add(file.getName().replace(".java", ""));
            }
        }
        DUE.same("tests in README.md's table", rows.toString(), files.toString());
    }
}
