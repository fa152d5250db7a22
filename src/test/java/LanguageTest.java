import java.io.IOException;
import java.lang.reflect.Constructor;
import java.lang.reflect.Field;
import java.lang.reflect.Method;
import java.lang.reflect.Modifier;
import java.nio.file.Files;
import java.nio.file.Path;
import java.util.Set;
import java.util.TreeSet;
import java.util.regex.Matcher;
import java.util.regex.Pattern;

/** Those rules of LANGUAGE.md, and the document's face, that can be seen from the class and its text. */
public final class LanguageTest {
    private static final String FACE = "int feed(int,int,int,int,int); int task(int,int) throws IllegalArgumentException; int fault();"
        + " int code(int,int,int) throws IndexOutOfBoundsException,IllegalArgumentException;"
        + " int memory(int,int,int) throws IndexOutOfBoundsException,IllegalArgumentException;"
        + " int length(int) throws IndexOutOfBoundsException;"
        + " int cell(int,int,int) throws IndexOutOfBoundsException,IllegalArgumentException;"
        + " int sum(int,int) throws IndexOutOfBoundsException,IllegalArgumentException;"
        + " int beside(int,int,int,int) throws IndexOutOfBoundsException,IllegalArgumentException;"
        + " int both(int,int);"
        + " boolean shown(int,int,int,int) throws IndexOutOfBoundsException,IllegalArgumentException;"
        + " int cut(int,int) throws IndexOutOfBoundsException,IllegalArgumentException;"
        + " int house(int) throws IllegalArgumentException;"
        + " int told(int,int) throws IndexOutOfBoundsException,IllegalArgumentException;"
        + " int rule(int,int) throws IllegalArgumentException;"
        + " int give(int,int,int,int,int,int) throws IndexOutOfBoundsException,IllegalArgumentException;"
        + " int claim(int,int,int) throws IndexOutOfBoundsException;"
        + " int doubt(int,int,int,int) throws IndexOutOfBoundsException;"
        + " int piece(int,int,int) throws IndexOutOfBoundsException,IllegalArgumentException;"
        + " int answer(int,int,boolean,int) throws IndexOutOfBoundsException;"
        + " int tick(int) throws IllegalArgumentException,IllegalStateException;"
        + " boolean trial(int,int,int,int) throws IndexOutOfBoundsException,IllegalArgumentException;"
        + " int bid(int,int,int,int,int,int) throws IndexOutOfBoundsException,IllegalArgumentException;"
        + " long cost(int,int,int) throws IndexOutOfBoundsException;"
        + " long chosen(int,int,int,int) throws IndexOutOfBoundsException,IllegalArgumentException;"
        + " int linear(int) throws IndexOutOfBoundsException;"
        + " int lot(int,int,int,int) throws IndexOutOfBoundsException,IllegalArgumentException;"
        + " int part(int,int,int,int) throws IndexOutOfBoundsException,IllegalArgumentException;"
        + " int out(int,int,int) throws IndexOutOfBoundsException,IllegalArgumentException;"
        + " int count(int); int purse(int) throws IndexOutOfBoundsException";
    private static final Pattern METHOD = Pattern.compile("^( {4}| {8})(public|private) (static )?[\\w\\[\\]]+ (\\w+)\\((.*)\\).*\\{$");

    public static void main(String[] args) throws IOException {
        face();
        String source = Files.readString(Path.of("src/main/java/StrangerHall.java"));
        String code = source.replaceAll("(?s)/\\*.*?\\*/", "").replaceAll("//.*", "");
        words(code);
        madeInConstructors(code);
        methods(code);
        Check.end();
    }

    private static void face() {
        Class<?> hall = StrangerHall.class;
        Check.is("rule 1 public and final", hall.getModifiers(), Modifier.PUBLIC | Modifier.FINAL);
        Set<String> due = new TreeSet<>(Set.of(FACE.split("; ?")));
        Set<String> found = new TreeSet<>();
        for (Method method : hall.getDeclaredMethods()) {
            if (Modifier.isPrivate(method.getModifiers())) {
                continue;
            }
            Check.is("rule 1 " + method, method.getModifiers(), Modifier.PUBLIC);
            found.add(told(method));
        }
        Check.is("the methods of the face " + found, found.equals(due), true);
        for (Constructor<?> constructor : hall.getDeclaredConstructors()) {
            Check.is("the constructor", constructor.getModifiers() == Modifier.PUBLIC && constructor.getParameterCount() == 0, true);
        }
        for (Field field : hall.getDeclaredFields()) {
            boolean isNone = field.getName().equals("NONE");
            Check.is("rule 1 " + field, Modifier.isPrivate(field.getModifiers()), !isNone);
            Check.is("rule 5 " + field, !Modifier.isStatic(field.getModifiers()) || Modifier.isFinal(field.getModifiers()), true);
        }
        Check.is("rule 11 classes", hall.getDeclaredClasses().length <= 11, true);
        for (Class<?> inside : hall.getDeclaredClasses()) {
            Check.is("rule 1 " + inside, Modifier.isStatic(inside.getModifiers()) && Modifier.isPrivate(inside.getModifiers()), true);
        }
    }

    private static String told(Method method) {
        StringBuilder text = new StringBuilder();
        text.append(method.getReturnType()).append(' ').append(method.getName()).append('(');
        for (Class<?> type : method.getParameterTypes()) {
            text.append(text.charAt(text.length() - 1) == '(' ? "" : ",").append(type);
        }
        text.append(')');
        String between = " throws ";
        for (Class<?> type : method.getExceptionTypes()) {
            text.append(between).append(type.getSimpleName());
            between = ",";
        }
        return text.toString();
    }

    private static void words(String code) {
        String[] forbidden = {"\\bimport\\b", "\\btry\\b", "\\bcatch\\b", "\\bfinally\\b", "\\bsynchronized\\b", "\\bassert\\b",
            "\\binstanceof\\b", "->", "::", "static \\{", "@", "Exact\\b", "\\bSystem\\b", "\\bObject\\b", "\\bprotected\\b",
            "\\bvar\\b", "while \\(true\\)", "for \\(;;\\)", "\\bequals\\b", "\\bthread\\b"};
        for (String word : forbidden) {
            Check.is("not in the class: " + word, Pattern.compile(word).matcher(code).find(), false);
        }
        Matcher thrown = Pattern.compile("throw new (\\w+)\\(\\);").matcher(code);
        Set<String> allowed = Set.of("IllegalArgumentException", "IndexOutOfBoundsException", "IllegalStateException");
        while (thrown.find()) {
            Check.is("thrown " + thrown.group(1), allowed.contains(thrown.group(1)), true);
        }
    }

    /** What a run makes stays small if calls make nothing but exceptions. */
    private static void madeInConstructors(String code) {
        for (String line : code.split("\n")) {
            if (line.contains("new ") && !line.contains("throw new ")) {
                boolean field = line.matches("^( {4}| {8})private final .* = new .*;$");
                boolean rows = line.matches("^ +\\w+\\[i\\] = new \\w+\\(\\);$");
                Check.is("rule 12 made where? " + line.trim(), field || rows, true);
            }
        }
    }

    private static void methods(String code) {
        Set<String> face = new TreeSet<>();
        for (Method method : StrangerHall.class.getDeclaredMethods()) {
            if (Modifier.isPublic(method.getModifiers())) {
                face.add(method.getName());
            }
        }
        String[] lines = code.split("\n");
        int found = 0;
        for (int i = 0; i < lines.length; i++) {
            Matcher method = METHOD.matcher(lines[i]);
            if (!method.matches()) {
                continue;
            }
            found++;
            boolean isPrivate = method.group(2).equals("private");
            Check.is("rule 1 name of " + method.group(4), isPrivate && face.contains(method.group(4)), false);
            Check.is("rule 11 parameters of " + method.group(4), method.group(5).split(",").length <= 7, true);
            int length = 1;
            while (i + length < lines.length && !lines[i + length].equals(method.group(1) + "}")) {
                length++;
            }
            Check.is("rule 11 length of " + method.group(4), length <= 60, true);
        }
        Check.is("methods were found", found > 100, true);
    }
}
