import java.io.IOException;
import java.lang.reflect.InvocationTargetException;
import java.lang.reflect.Method;
import java.lang.reflect.Modifier;
import java.nio.file.Files;
import java.nio.file.Path;
import java.util.ArrayList;
import java.util.List;
import java.util.Set;
import java.util.TreeSet;
import java.util.regex.Matcher;
import java.util.regex.Pattern;

/** Makes the calls that README.md shows, and looks whether each answers what stands behind it. */
public final class ReadmeTest {
    private static final Pattern SHOWN = Pattern.compile("(hall\\..*\\)); *// (throws \\w+|true|false|-?\\d+)(:.*)?");

    private static StrangerHall hall;
    private static final Set<String> called = new TreeSet<>();
    private final String text;
    private int at;

    private ReadmeTest(String text) {
        this.text = text;
    }

    public static void main(String[] args) throws IOException {
        boolean isCode = false;
        for (String line : Files.readAllLines(Path.of("README.md"))) {
            if (line.startsWith("```")) {
                isCode = line.equals("```java");
            } else if (isCode && !line.startsWith("//")) {
                run(line);
            }
        }
        Check.is("calls of the face that README.md doesn't show: " + notShown(), notShown().size(), 0);
        Check.end();
    }

    private static void run(String line) {
        if (line.equals("StrangerHall hall = new StrangerHall();")) {
            hall = new StrangerHall();
            return;
        }
        Matcher shown = SHOWN.matcher(line);
        Check.is("a call and its answer: " + line, shown.matches(), true);
        if (!shown.matches()) {
            return;
        }
        String answer = new ReadmeTest(shown.group(1)).answer();
        Check.is(line + " (it answered " + answer + ")", answer.equals(shown.group(2)), true);
    }

    private static Set<String> notShown() {
        Set<String> names = new TreeSet<>();
        for (Method method : StrangerHall.class.getDeclaredMethods()) {
            if (Modifier.isPublic(method.getModifiers())) {
                names.add(method.getName());
            }
        }
        names.removeAll(called);
        return names;
    }

    private String answer() {
        try {
            return String.valueOf(value());
        } catch (InvocationTargetException thrown) {
            return "throws " + thrown.getCause().getClass().getSimpleName();
        } catch (IllegalAccessException | RuntimeException unread) {
            return unread.toString();
        }
    }

    /** A number, true, false, or a call of the hall with such values. */
    private Object value() throws InvocationTargetException, IllegalAccessException {
        if (text.startsWith("hall.", at)) {
            at += "hall.".length();
            return call(upTo("("));
        }
        String word = upTo(",)");
        at--;
        if (word.equals("true") || word.equals("false")) {
            return Boolean.valueOf(word);
        }
        return word.startsWith("0x") ? Integer.parseUnsignedInt(word.substring(2), 16) : Integer.parseInt(word);
    }

    private Object call(String name) throws InvocationTargetException, IllegalAccessException {
        List<Object> values = new ArrayList<>();
        boolean isMore = text.charAt(at) != ')';
        while (isMore) {
            values.add(value());
            isMore = text.charAt(at) == ',';
            at += isMore ? 2 : 0;
        }
        at++;
        called.add(name);
        for (Method method : StrangerHall.class.getDeclaredMethods()) {
            if (method.getName().equals(name)) {
                return method.invoke(hall, values.toArray());
            }
        }
        throw new IllegalArgumentException("no call " + name);
    }

    /** What stands ahead of the first of such signs; that sign is read, too. */
    private String upTo(String signs) {
        int from = at;
        while (signs.indexOf(text.charAt(at)) < 0) {
            at++;
        }
        at++;
        return text.substring(from, at - 1);
    }
}
