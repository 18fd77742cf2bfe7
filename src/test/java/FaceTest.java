import java.io.IOException;
import java.lang.reflect.Executable;
import java.lang.reflect.Method;
import java.lang.reflect.Modifier;
import java.nio.file.Files;
import java.nio.file.Path;
import java.util.ArrayList;
import java.util.Arrays;
import java.util.List;
import java.util.Set;
import java.util.TreeSet;

/** The face of the class is declared as the code block of ../shared/DOC.md has it. */
public final class FaceTest {
    private static final String HEAD = "public final class Grantbase {";

    /** The declarations of the document, each on one line without its ";". */
    private static List<String> due(String document) {
        String fence = "```java";
        int start = document.indexOf(fence) + fence.length();
        String block = document.substring(start, document.indexOf("```", start));
        List<String> due = new ArrayList<>();
        for (String line : block.split("\n")) {
            String bare = line.trim();
            if (bare.endsWith(";")) {
                due.add(bare.substring(0, bare.length() - 1));
            } else {
                Desk.is("line of the code block: " + bare,
                        bare.isEmpty() || bare.equals(HEAD) || bare.equals("}"), true);
            }
        }
        return due;
    }

    /** The public declarations of the program's text, each on one line without its "{" or ";". */
    private static List<String> written(String program) {
        List<String> written = new ArrayList<>();
        String[] lines = program.split("\n");
        for (int i = 0; i < lines.length; i++) {
            if (!lines[i].trim().startsWith("public ") || lines[i].equals(HEAD)) {
                continue;
            }
            StringBuilder text = new StringBuilder(lines[i]);
            while (!lines[i].endsWith("{") && !lines[i].endsWith(";")) {
                i++;
                text.append(' ').append(lines[i].trim());
            }
            String bare = text.toString().trim();
            written.add(bare.substring(0, bare.length() - 1).trim());
        }
        return written;
    }

    /** The words between two marks of a declaration, divided by commas. */
    private static List<String> between(String declaration, String from, String to) {
        List<String> words = new ArrayList<>();
        int start = declaration.indexOf(from);
        if (start < 0) {
            return words;
        }
        int end = to.isEmpty() ? declaration.length() : declaration.indexOf(to, start);
        for (String word : declaration.substring(start + from.length(), end).split(",")) {
            if (!word.isBlank()) {
                words.add(word.trim());
            }
        }
        return words;
    }

    /** A declaration of the document without the names of its parameters. */
    private static String shape(String declaration) {
        String head = declaration.substring(0, declaration.indexOf('('));
        List<String> types = new ArrayList<>();
        for (String parameter : between(declaration, "(", ")")) {
            types.add(parameter.split(" ")[0]);
        }
        return head + types + between(declaration, " throws ", "");
    }

    /** The same of what the compiler made. */
    private static String shape(Executable made) {
        String head = Modifier.toString(made.getModifiers());
        if (made instanceof Method) {
            head += " " + ((Method) made).getReturnType().getSimpleName();
        }
        head += " " + (made instanceof Method ? made.getName() : made.getDeclaringClass().getSimpleName());
        return head + names(made.getParameterTypes()) + names(made.getExceptionTypes());
    }

    private static List<String> names(Class<?>[] types) {
        List<String> names = new ArrayList<>();
        for (Class<?> type : types) {
            Package home = type.getPackage();
            boolean isKnown = type.isPrimitive() || home != null && home.getName().equals("java.lang");
            names.add(isKnown ? type.getSimpleName() : type.getName());
        }
        return names;
    }

    /** What is public in the class itself; what it inherits is the library's. */
    private static List<String> made() {
        List<Executable> all = new ArrayList<>();
        all.addAll(Arrays.asList(Grantbase.class.getDeclaredConstructors()));
        all.addAll(Arrays.asList(Grantbase.class.getDeclaredMethods()));
        List<String> shapes = new ArrayList<>();
        for (Executable one : all) {
            if (!Modifier.isPrivate(one.getModifiers())) {
                shapes.add(shape(one));
            }
        }
        return shapes;
    }

    private static void compare(String where, List<String> due, List<String> got) {
        Set<String> missing = new TreeSet<>(due);
        missing.removeAll(got);
        Set<String> further = new TreeSet<>(got);
        further.removeAll(due);
        Desk.is(where + ", missing", missing, Set.of());
        Desk.is(where + ", beyond the document", further, Set.of());
        Desk.is(where + ", how many", got.size(), due.size());
    }

    /** Public members come by inheritance, too, and in classes inside. */
    private static void nothingBeside() {
        Desk.is("superclass", Grantbase.class.getSuperclass(), Object.class);
        Desk.is("interfaces", Grantbase.class.getInterfaces().length, 0);
        Desk.is("public classes inside", Grantbase.class.getClasses().length, 0);
        Desk.is("public constants", Grantbase.class.getFields().length, 0);
    }

    public static void main(String[] args) throws IOException {
        List<String> due = due(Files.readString(Path.of("../shared/DOC.md")));
        int throwing = 0;
        List<String> shapes = new ArrayList<>();
        for (String declaration : due) {
            throwing += declaration.contains(" throws ") ? 1 : 0;
            shapes.add(shape(declaration));
        }
        Desk.is("declarations of the document", due.size(), 49);
        Desk.is("those with a throws clause", throwing, 45);
        compare("the compiled class", shapes, made());
        compare("the written class", due,
                written(Files.readString(Path.of("src/main/java/Grantbase.java"))));
        nothingBeside();
        Desk.end("FaceTest");
    }
}
