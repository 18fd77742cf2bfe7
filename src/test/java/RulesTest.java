import java.io.IOException;
import java.lang.reflect.Constructor;
import java.lang.reflect.Field;
import java.lang.reflect.Member;
import java.lang.reflect.Method;
import java.lang.reflect.Modifier;
import java.nio.file.Files;
import java.nio.file.Path;
import java.util.ArrayList;
import java.util.List;
import java.util.Set;
import java.util.TreeSet;
import java.util.regex.Matcher;
import java.util.regex.Pattern;

/** What ../shared/LANGUAGE.md asks of the program's file, as far as it is seen from outside. */
public final class RulesTest {

    private static boolean isShut(Member member) {
        return Modifier.isPrivate(member.getModifiers());
    }

    private static void face(Set<String> face) {
        for (Method m : Grantbase.class.getDeclaredMethods()) {
            if (Modifier.isPublic(m.getModifiers())) {
                Desk.is("public " + m.getName() + " once", face.add(m.getName()), true);
            } else {
                Desk.is("private " + m.getName(), isShut(m), true);
            }
        }
        Desk.is("methods of the face", face.size(), 48);
        for (Field f : Grantbase.class.getDeclaredFields()) {
            Desk.is("private " + f.getName(), isShut(f), true);
        }
        Constructor<?>[] made = Grantbase.class.getDeclaredConstructors();
        Desk.is("constructors", made.length == 1 && Modifier.isPublic(made[0].getModifiers()), true);
        Desk.is("final", Modifier.isFinal(Grantbase.class.getModifiers()), true);
    }

    private static void classes(Set<String> face) {
        List<Class<?>> all = new ArrayList<>(List.of(Grantbase.class.getDeclaredClasses()));
        Desk.is("classes", all.size() <= 11, true);
        all.add(Grantbase.class);
        for (Class<?> c : all) {
            if (c != Grantbase.class) {
                Desk.is("static " + c, Modifier.isStatic(c.getModifiers()), true);
            }
            int fields = 0;
            for (Field f : c.getDeclaredFields()) {
                fields += Modifier.isStatic(f.getModifiers()) ? 0 : 1;
                boolean isConstant = Modifier.isStatic(f.getModifiers());
                Desk.is(c + " " + f.getName() + " final", !isConstant || Modifier.isFinal(f.getModifiers()), true);
            }
            Desk.is("fields of " + c + ": " + fields, fields <= 20, true);
            for (Method m : c.getDeclaredMethods()) {
                Desk.is(c + " " + m.getName() + " parameters", m.getParameterCount() <= 7, true);
                boolean isFace = c == Grantbase.class && Modifier.isPublic(m.getModifiers());
                Desk.is(c + " bears the name of " + m.getName(), isFace || !face.contains(m.getName()), true);
            }
        }
    }

    private static void source(String text) {
        String bare = text.replaceAll("(?s)/\\*.*?\\*/", "").replaceAll("//[^\n]*", "")
                .replaceAll("\"[^\"]*\"", "\"\"");
        for (String word : new String[] {"->", "::", "try", "catch", "finally", "synchronized", "assert", "package",
            "while", "@", "volatile", "equals", "hashCode", "Random", "System.out", "nanoTime", "Thread", "Exact"}) {
            boolean isWord = Character.isLetter(word.charAt(0));
            Pattern pattern = Pattern.compile(isWord ? "\\b" + word : Pattern.quote(word));
            Desk.is("no " + word, pattern.matcher(bare).find(), false);
        }
        Matcher imports = Pattern.compile("import ([\\w.]+);").matcher(bare);
        while (imports.find()) {
            Desk.is("import", imports.group(1), "java.util.Arrays");
        }
        Matcher thrown = Pattern.compile("throw new (\\w+)\\(").matcher(bare);
        Set<String> kinds = new TreeSet<>();
        while (thrown.find()) {
            kinds.add(thrown.group(1));
        }
        Desk.is("thrown", kinds, Set.of("IndexOutOfBoundsException", "IllegalArgumentException",
                "IllegalStateException"));
        Matcher methods = Pattern.compile("(?m)^( {4}| {8})(?:private|public)[^;={]*\\{\n((?:.*\n)*?)\\1\\}").matcher(bare);
        int count = 0;
        while (methods.find()) {
            if (methods.group().contains(" class ") && methods.group().indexOf(" class ") < 60) {
                continue;
            }
            count++;
            int lines = methods.group(2).split("\n").length;
            Desk.is("lines of " + methods.group().trim().split("\n")[0], lines <= 60, true);
        }
        Desk.is("methods found", count > 48, true);
    }

    public static void main(String[] args) throws IOException {
        Set<String> face = new TreeSet<>();
        face(face);
        classes(face);
        source(Files.readString(Path.of("src/main/java/Grantbase.java")));
        Desk.end("RulesTest");
    }
}
