import java.io.IOException;
import java.lang.reflect.Executable;
import java.lang.reflect.InvocationTargetException;
import java.lang.reflect.Method;
import java.lang.reflect.Modifier;
import java.nio.file.Files;
import java.nio.file.Path;
import java.util.ArrayList;
import java.util.List;
import java.util.TreeMap;
import java.util.regex.Matcher;
import java.util.regex.Pattern;

/** What README.md tells: each call with its answer, and which calls throw what. */
public final class ReadmeTest {
    private static final Pattern MADE = Pattern.compile(" {4}Grantbase base = new Grantbase\\(\\);");
    private static final Pattern CALL = Pattern.compile(
            " {4}base\\.(\\w+)\\(([^)]*)\\); *// (throws \\w+|\"[^\"]*\"|-?\\w+)(:.*)?");
    private static final Pattern NAME = Pattern.compile("`(\\w+)`");
    private static final String TABLE = "| calls |";

    private static TreeMap<String, Executable> face() {
        TreeMap<String, Executable> face = new TreeMap<>();
        for (Method m : Grantbase.class.getDeclaredMethods()) {
            if (Modifier.isPublic(m.getModifiers())) {
                face.put(m.getName(), m);
            }
        }
        face.put("Grantbase", Grantbase.class.getDeclaredConstructors()[0]);
        return face;
    }

    private static Object[] arguments(String text) {
        String[] words = text.isEmpty() ? new String[0] : text.split(", ");
        Object[] arguments = new Object[words.length];
        for (int i = 0; i < words.length; i++) {
            boolean isTruth = words[i].equals("true") || words[i].equals("false");
            arguments[i] = isTruth ? (Object) Boolean.valueOf(words[i]) : (Object) Integer.valueOf(words[i]);
        }
        return arguments;
    }

    /** What a call answers, as the page writes it. */
    private static String answer(Grantbase base, Executable called, Object[] arguments) {
        try {
            Object got = ((Method) called).invoke(base, arguments);
            return got instanceof String ? "\"" + got + "\"" : got.toString();
        } catch (InvocationTargetException e) {
            return "throws " + e.getCause().getClass().getSimpleName();
        } catch (IllegalAccessException e) {
            throw new AssertionError(e);
        }
    }

    /** The calls of the page, one behind the other on one object. */
    private static void calls(List<String> lines) {
        Grantbase base = null;
        int many = 0;
        for (String line : lines) {
            if (MADE.matcher(line).matches()) {
                base = new Grantbase();
            }
            if (line.startsWith("    base.")) {
                Matcher call = CALL.matcher(line);
                boolean isRead = call.matches() && base != null;
                Desk.is("can be read: " + line, isRead, true);
                if (isRead) {
                    String got = answer(base, face().get(call.group(1)), arguments(call.group(2)));
                    Desk.is(line.trim(), got, call.group(3));
                    many++;
                }
            }
        }
        Desk.is("the page has calls", many > 30, true);
    }

    /** The exceptions that a row of the table tells, from the heads of its filled cells. */
    private static List<String> told(String[] heads, String[] cells) {
        List<String> told = new ArrayList<>();
        for (int i = 2; i < heads.length; i++) {
            if (i < cells.length && !cells[i].isBlank()) {
                told.add(heads[i].trim());
            }
        }
        return told;
    }

    private static List<String> declared(Executable called) {
        List<String> declared = new ArrayList<>();
        for (Class<?> type : called.getExceptionTypes()) {
            declared.add(type.getSimpleName());
        }
        return declared;
    }

    /** Each call of the face stands in the table once, with the exceptions that it declares. */
    private static void exceptions(List<String> lines) {
        TreeMap<String, Executable> left = face();
        int head = 0;
        while (head < lines.size() && !lines.get(head).startsWith(TABLE)) {
            head++;
        }
        Desk.is("the page has the table", head < lines.size(), true);
        for (int i = head + 2; i < lines.size() && lines.get(i).startsWith("|"); i++) {
            String[] cells = lines.get(i).split("\\|");
            Matcher names = NAME.matcher(cells[1]);
            while (names.find()) {
                Executable called = left.remove(names.group(1));
                Desk.is("once in the table: " + names.group(1), called != null, true);
                if (called != null) {
                    Desk.is("thrown by " + names.group(1), told(lines.get(head).split("\\|"), cells),
                            declared(called));
                }
            }
        }
        Desk.is("not in the table", left.keySet().toString(), "[]");
    }

    /** Each test of the project stands on the page. */
    private static void tests(String page) throws IOException {
        try (var files = Files.list(Path.of("src/test/java"))) {
            files.map(file -> file.getFileName().toString()).filter(name -> name.endsWith("Test.java"))
                    .forEach(name -> Desk.is("on the page: " + name,
                            page.contains("| " + name.substring(0, name.length() - 5) + " |"), true));
        }
    }

    public static void main(String[] args) throws IOException {
        String page = Files.readString(Path.of("README.md"));
        List<String> lines = List.of(page.split("\n"));
        calls(lines);
        exceptions(lines);
        tests(page);
        Desk.end("ReadmeTest");
    }
}
