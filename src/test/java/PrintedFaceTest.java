import java.io.IOException;
import java.lang.reflect.Constructor;
import java.lang.reflect.Executable;
import java.lang.reflect.Field;
import java.lang.reflect.Method;
import java.lang.reflect.Modifier;
import java.lang.reflect.Parameter;
import java.nio.file.Files;
import java.nio.file.Path;
import java.util.ArrayList;
import java.util.Collections;
import java.util.HashSet;
import java.util.List;
import java.util.Set;
import java.util.stream.Stream;

/**
 * The face as the document prints it, declaration by declaration, and nothing that can be seen beside it. Needs the class
 * compiled with -parameters; its argument is the directory into which the class was compiled alone.
 */
public final class PrintedFaceTest {
    private static final Path DOCUMENT = Path.of("../shared/DOC.md");

    private final Check check = new Check("PrintedFaceTest");

    public static void main(String[] args) throws IOException, IllegalAccessException {
        PrintedFaceTest test = new PrintedFaceTest();
        List<String> printed = printed();
        test.check.due("declarations that the document prints", printed.size(), 33);
        test.check.dueText("the face", String.join("\n", seen()), String.join("\n", printed));
        test.rulesOfTheFace();
        if (args.length > 0) {
            test.compiledAlone(Path.of(args[0]));
        }
        test.check.end();
    }

    /** The rows of the first block of Java in the document: the class, its constant, its constructor, its methods. */
    private static List<String> printed() throws IOException {
        List<String> rows = new ArrayList<>();
        boolean isInside = false;
        for (String line : Files.readAllLines(DOCUMENT)) {
            if (isInside && line.startsWith("```")) {
                break;
            }
            String row = line.strip().replaceFirst("( \\{|;)$", "");
            if (isInside && row.startsWith("public ")) {
                rows.add(row);
            }
            isInside |= line.equals("```java");
        }
        Collections.sort(rows);
        return rows;
    }

    /** All that is not private, told as the document prints it. */
    private static List<String> seen() throws IllegalAccessException {
        Class<?> type = NotchedCards.class;
        List<String> rows = new ArrayList<>();
        rows.add(Modifier.toString(type.getModifiers()) + " class " + type.getSimpleName());
        for (Field field : type.getDeclaredFields()) {
            if (!Modifier.isPrivate(field.getModifiers())) {
                Object value = Modifier.isStatic(field.getModifiers()) ? field.get(null) : "of each object";
                rows.add(head(field.getModifiers()) + field.getType().getSimpleName() + " " + field.getName() + " = " + value);
            }
        }
        for (Constructor<?> constructor : type.getDeclaredConstructors()) {
            if (!Modifier.isPrivate(constructor.getModifiers())) {
                rows.add(head(constructor.getModifiers()) + type.getSimpleName() + tail(constructor));
            }
        }
        for (Method method : type.getDeclaredMethods()) {
            if (!Modifier.isPrivate(method.getModifiers())) {
                rows.add(head(method.getModifiers()) + method.getReturnType().getSimpleName() + " " + method.getName() + tail(method));
            }
        }
        Collections.sort(rows);
        return rows;
    }

    private static String head(int modifiers) {
        return modifiers == 0 ? "" : Modifier.toString(modifiers) + " ";
    }

    private static String tail(Executable of) {
        List<String> parameters = new ArrayList<>();
        for (Parameter parameter : of.getParameters()) {
            parameters.add(parameter.getType().getSimpleName() + " " + parameter.getName());
        }
        List<String> thrown = new ArrayList<>();
        for (Class<?> type : of.getExceptionTypes()) {
            thrown.add(type.getSimpleName());
        }
        return "(" + String.join(", ", parameters) + ")" + (thrown.isEmpty() ? "" : " throws " + String.join(", ", thrown));
    }

    /** Rule 1 of LANGUAGE.md, and rule 11's number of classes. */
    private void rulesOfTheFace() {
        Class<?> type = NotchedCards.class;
        check.due("it is of no package", type.getPackageName().length(), 0);
        check.due("it extends Object alone", type.getSuperclass() == Object.class ? 1 : 0, 1);
        check.due("it implements nothing", type.getInterfaces().length, 0);
        Set<String> open = new HashSet<>();
        for (Method method : type.getDeclaredMethods()) {
            if (Modifier.isPublic(method.getModifiers())) {
                open.add(method.getName());
            }
        }
        for (Method method : type.getDeclaredMethods()) {
            boolean isRight = Modifier.isPublic(method.getModifiers()) || !open.contains(method.getName());
            check.due("no private method of a public name: " + method.getName(), isRight ? 1 : 0, 1);
        }
        for (Field field : type.getDeclaredFields()) {
            boolean isLasting = !Modifier.isStatic(field.getModifiers()) || Modifier.isFinal(field.getModifiers());
            check.due("a static field is final: " + field.getName(), isLasting ? 1 : 0, 1);
        }
        for (Class<?> inside : type.getDeclaredClasses()) {
            int modifiers = inside.getModifiers();
            check.due("a class inside is static: " + inside, Modifier.isStatic(modifiers) ? 1 : 0, 1);
            check.due("a class inside is hidden: " + inside, modifiers & (Modifier.PUBLIC | Modifier.PROTECTED), 0);
        }
        check.due("classes inside: at most twelve", type.getDeclaredClasses().length <= 12 ? 1 : 0, 1);
    }

    /** From the one file come the class and those inside it, and this test looks at just these. */
    private void compiledAlone(Path directory) throws IOException {
        List<String> files = new ArrayList<>();
        try (Stream<Path> all = Files.list(directory)) {
            all.forEach(file -> files.add(file.getFileName().toString()));
        }
        check.due("NotchedCards.class is there", files.contains("NotchedCards.class") ? 1 : 0, 1);
        for (String file : files) {
            check.due("of the class: " + file, file.matches("NotchedCards(\\$\\w+)?\\.class") ? 1 : 0, 1);
        }
        String from = NotchedCards.class.getProtectionDomain().getCodeSource().getLocation().getPath();
        check.due("the class that was compiled alone is looked at", Files.isSameFile(Path.of(from), directory) ? 1 : 0, 1);
    }
}
