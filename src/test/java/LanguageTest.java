import java.io.IOException;
import java.lang.reflect.Constructor;
import java.lang.reflect.Field;
import java.lang.reflect.Method;
import java.lang.reflect.Modifier;
import java.nio.file.Files;
import java.nio.file.Path;
import java.util.ArrayList;
import java.util.List;
import java.util.Set;
import java.util.TreeSet;
import java.util.regex.Matcher;
import java.util.regex.Pattern;

/** The document's face, and those rules of LANGUAGE.md that can be seen from the class or from its text. */
public final class LanguageTest {
    private static final Check CHECK = new Check("the face, the language");
    private static final Path SOURCE = Path.of("src/main/java/TwoServes.java");
    private static final Path DOCUMENT = Path.of("../shared/DOC.md");

    private LanguageTest() {
    }

    public static void main(String[] args) throws IOException {
        face();
        names();
        classes();
        words();
        CHECK.end();
    }

    /** Rule 1: public is what the document's face says, and nothing is package-visible or protected. */
    private static void face() throws IOException {
        Set<String> due = new TreeSet<>();
        Matcher m = Pattern.compile("    public (int|long) (\\w+)\\((.*)\\);").matcher(Files.readString(DOCUMENT));
        while (m.find()) {
            StringBuilder types = new StringBuilder();
            for (String parameter : m.group(3).isEmpty() ? new String[0] : m.group(3).split(", ")) {
                types.append(' ').append(parameter.split(" ")[0]);
            }
            due.add(m.group(1) + " " + m.group(2) + types);
        }
        CHECK.due("the face's methods", due.size(), 39);
        Set<String> found = new TreeSet<>();
        for (Method method : TwoServes.class.getDeclaredMethods()) {
            if (!Modifier.isPrivate(method.getModifiers()) && !method.isSynthetic()) {
                StringBuilder types = new StringBuilder();
                for (Class<?> type : method.getParameterTypes()) {
                    types.append(' ').append(type.getName());
                }
                found.add(method.getReturnType().getName() + " " + method.getName() + types);
                CHECK.that("public, not static: " + method, Modifier.isPublic(method.getModifiers())
                    && !Modifier.isStatic(method.getModifiers()));
            }
        }
        CHECK.that("the methods " + found + " are " + due, found.equals(due));
        Constructor<?>[] constructors = TwoServes.class.getDeclaredConstructors();
        CHECK.due("constructors", constructors.length, 1);
        CHECK.that("public", Modifier.isPublic(constructors[0].getModifiers())
            && constructors[0].getParameterCount() == 0);
        CHECK.that("public and final", Modifier.isPublic(TwoServes.class.getModifiers())
            && Modifier.isFinal(TwoServes.class.getModifiers()));
        Set<String> constants = new TreeSet<>();
        for (Field field : TwoServes.class.getDeclaredFields()) {
            if (!Modifier.isPrivate(field.getModifiers())) {
                constants.add(field.getType().getName() + " " + field.getName());
                CHECK.due("public static final: " + field, field.getModifiers(),
                    Modifier.PUBLIC | Modifier.STATIC | Modifier.FINAL);
            }
        }
        CHECK.due("the constants " + constants, constants.equals(
            Set.of("int NONE", "int BAD", "int STATE", "int FULL", "long NO")) ? 1 : 0, 1);
    }

    /** Rule 1: no private method bears the name of a public one; rule 11: at most seven parameters. */
    private static void names() {
        Set<String> names = new TreeSet<>();
        for (Method method : TwoServes.class.getDeclaredMethods()) {
            if (Modifier.isPublic(method.getModifiers())) {
                names.add(method.getName());
            }
        }
        for (Class<?> type : all()) {
            for (Method method : type.getDeclaredMethods()) {
                CHECK.that(method + " bears a name of its own",
                    Modifier.isPublic(method.getModifiers()) || !names.contains(method.getName()));
                CHECK.that(method + " takes seven at most", method.getParameterCount() <= 7);
            }
        }
    }

    /** Rules 2, 5, 11: classes inside are static, some twelve with some twenty fields; static fields are final. */
    private static void classes() {
        CHECK.that("some twelve classes", all().size() <= 12);
        for (Class<?> type : all()) {
            CHECK.that(type + " is static", type == TwoServes.class || Modifier.isStatic(type.getModifiers()));
            CHECK.that(type + " is not public", type == TwoServes.class || !Modifier.isPublic(type.getModifiers()));
            int fields = 0;
            for (Field field : type.getDeclaredFields()) {
                if (Modifier.isStatic(field.getModifiers())) {
                    CHECK.that(field + " is final", Modifier.isFinal(field.getModifiers()));
                } else {
                    fields++;
                }
            }
            CHECK.that(type + " has some twenty fields", fields <= 20);
        }
    }

    private static List<Class<?>> all() {
        List<Class<?>> all = new ArrayList<>(List.of(TwoServes.class));
        all.addAll(List.of(TwoServes.class.getDeclaredClasses()));
        return all;
    }

    /** Rules 2, 4, 6, 11, 13: words and signs that may not stand in the file, comments and texts left out. */
    private static void words() throws IOException {
        String code = Files.readString(SOURCE).replaceAll("(?s)/\\*.*?\\*/|//[^\\n]*|\"[^\"\\n]*\"", "");
        for (String word : List.of("throw", "throws", "try", "catch", "finally", "synchronized", "assert", "package",
                "protected", "volatile", "transient", "native", "abstract Object", "var", "hashCode", "toString",
                "float", "double", "Exact", "System.out", "System.exit", "Thread", "Random", "Object")) {
            CHECK.that("no " + word, !Pattern.compile("\\b" + Pattern.quote(word) + "\\b").matcher(code).find());
        }
        for (String signs : List.of("->", "::", "@", "String.format", "\" +", "+ \"")) {
            CHECK.that("no " + signs, !code.contains(signs));
        }
        Matcher imports = Pattern.compile("import ([^;]*);").matcher(code);
        while (imports.find()) {
            CHECK.that("import " + imports.group(1),
                Set.of("java.util.ArrayList", "java.util.Arrays").contains(imports.group(1)));
        }
        methodsAreShort(code.split("\n"));
    }

    /** Rule 11: some sixty lines. */
    private static void methodsAreShort(String[] lines) {
        for (int from = 0; from < lines.length; from++) {
            Matcher begins = Pattern.compile("( {4}| {8})\\S.*\\) \\{").matcher(lines[from]);
            if (begins.matches()) {
                int to = from;
                while (to < lines.length && !lines[to].equals(begins.group(1) + "}")) {
                    to++;
                }
                CHECK.that("short: " + lines[from], to - from <= 60);
            }
        }
    }
}
