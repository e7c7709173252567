import com.sun.source.tree.CompilationUnitTree;
import com.sun.source.util.JavacTask;
import com.sun.source.util.Trees;
import java.io.IOException;
import java.lang.reflect.Constructor;
import java.lang.reflect.Field;
import java.lang.reflect.Method;
import java.lang.reflect.Modifier;
import java.nio.file.Files;
import java.nio.file.Path;
import java.util.HashSet;
import java.util.List;
import java.util.Set;
import java.util.TreeSet;
import java.util.regex.Matcher;
import java.util.regex.Pattern;
import javax.tools.JavaCompiler;
import javax.tools.StandardJavaFileManager;
import javax.tools.ToolProvider;

/** The document's face as the class has it; and the rules of LANGUAGE.md, read off the compiler's tree of the file. */
public final class LanguageTest {
    private static final Check CHECK = new Check("the face, the language");
    private static final Path SOURCE = Path.of("src/main/java/TwoServes.java");
    private static final Path DOCUMENT = Path.of("../shared/DOC.md");

    private LanguageTest() {
    }

    public static void main(String[] args) throws IOException {
        methodsOfTheFace();
        constructorOfTheFace();
        constantsOfTheFace();
        wordsAheadOfTheCalls();
        names();
        tree();
        CHECK.end();
    }

    /** Rule 1: the public methods are those of the document's face, and none is package-visible or protected. */
    private static void methodsOfTheFace() throws IOException {
        Set<String> due = new TreeSet<>();
        Matcher m = Pattern.compile("    public (int|long) (\\w+)\\((.*)\\);").matcher(Files.readString(DOCUMENT));
        while (m.find()) {
            StringBuilder types = new StringBuilder();
            for (String parameter : m.group(3).isEmpty() ? new String[0] : m.group(3).split(", ")) {
                types.append(' ').append(parameter.split(" ")[0]);
            }
            due.add(m.group(1) + " " + m.group(2) + types);
        }
        CHECK.due("the face's methods", due.size(), 39);
        Set<String> found = new TreeSet<>();
        for (Method method : TwoServes.class.getDeclaredMethods()) {
            if (!Modifier.isPrivate(method.getModifiers()) && !method.isSynthetic()) {
                StringBuilder types = new StringBuilder();
                for (Class<?> type : method.getParameterTypes()) {
                    types.append(' ').append(type.getName());
                }
                found.add(method.getReturnType().getName() + " " + method.getName() + types);
                CHECK.that("public, not static: " + method, Modifier.isPublic(method.getModifiers())
                    && !Modifier.isStatic(method.getModifiers()));
            }
        }
        CHECK.that("the methods " + found + " are " + due, found.equals(due));
    }

    private static void constructorOfTheFace() {
        Constructor<?>[] constructors = TwoServes.class.getDeclaredConstructors();
        CHECK.due("constructors", constructors.length, 1);
        CHECK.that("public", Modifier.isPublic(constructors[0].getModifiers())
            && constructors[0].getParameterCount() == 0);
        CHECK.that("public and final", Modifier.isPublic(TwoServes.class.getModifiers())
            && Modifier.isFinal(TwoServes.class.getModifiers()));
        CHECK.that("without a package", TwoServes.class.getPackageName().isEmpty());
    }

    private static void constantsOfTheFace() {
        Set<String> constants = new TreeSet<>();
        for (Field field : TwoServes.class.getDeclaredFields()) {
            if (!Modifier.isPrivate(field.getModifiers())) {
                constants.add(field.getType().getName() + " " + field.getName());
                CHECK.due("public static final: " + field, field.getModifiers(),
                    Modifier.PUBLIC | Modifier.STATIC | Modifier.FINAL);
            }
        }
        CHECK.due("the constants " + constants, constants.equals(
            Set.of("int NONE", "int BAD", "int STATE", "int FULL", "long NO")) ? 1 : 0, 1);
    }

    /** "Ahead of the calls .. the interface says: ---- ..": that line, then these calls, then the next line. */
    private static void wordsAheadOfTheCalls() throws IOException {
        Matcher says = Pattern.compile("Ahead of the calls (.*) the interface says: (---- .*)\\.")
            .matcher(Files.readString(DOCUMENT));
        StringBuilder due = new StringBuilder();
        while (says.find()) {
            due.append(says.group(2)).append(": ").append(says.group(1).replace("`", "")).append('\n');
        }
        StringBuilder found = new StringBuilder();
        Matcher lines = Pattern.compile("    // (---- .*)|    public \\w+ (\\w+)\\(.*").matcher("");
        for (String line : Files.readAllLines(SOURCE)) {
            if (lines.reset(line).matches() && lines.group(1) != null) {
                found.append(found.length() == 0 ? "" : "\n").append(lines.group(1)).append(":");
            } else if (lines.matches()) {
                found.append(found.charAt(found.length() - 1) == ':' ? " " : ", ").append(lines.group(2));
            }
        }
        CHECK.that("the class says\n" + found + "\nand the document\n" + due,
            due.length() > 0 && found.toString().startsWith(due.toString().strip()));
    }

    /** Rule 1: no private method bears the name of a public one. */
    private static void names() {
        Set<String> names = new TreeSet<>();
        for (Method method : TwoServes.class.getDeclaredMethods()) {
            if (Modifier.isPublic(method.getModifiers())) {
                names.add(method.getName());
            }
        }
        Set<Class<?>> all = new HashSet<>(List.of(TwoServes.class.getDeclaredClasses()));
        all.add(TwoServes.class);
        for (Class<?> type : all) {
            for (Method method : type.getDeclaredMethods()) {
                CHECK.that(method + " bears a name of its own",
                    Modifier.isPublic(method.getModifiers()) || !names.contains(method.getName()));
            }
        }
    }

    /** Rules 2 to 13. */
    private static void tree() throws IOException {
        JavaCompiler compiler = ToolProvider.getSystemJavaCompiler();
        StandardJavaFileManager files = compiler.getStandardFileManager(null, null, null);
        JavacTask task = (JavacTask) compiler.getTask(null, files, null, List.of("-proc:none"), null,
            files.getJavaFileObjects(SOURCE));
        CompilationUnitTree unit = task.parse().iterator().next();
        task.analyze();
        Rules rules = new Rules(CHECK, unit, Trees.instance(task), task.getElements());
        rules.scan(unit, null);
        rules.ofTheWhole();
        files.close();
    }
}
