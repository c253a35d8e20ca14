import java.io.IOException;
import java.lang.reflect.Constructor;
import java.lang.reflect.Field;
import java.lang.reflect.Method;
import java.lang.reflect.Modifier;
import java.nio.file.Files;
import java.nio.file.Path;
import java.util.Arrays;
import java.util.TreeSet;

/** The class has the document's face and shows nothing else. */
public final class FaceTest {
    private static final String IAE = "IllegalArgumentException";
    private static final String ISE = "IllegalStateException";
    private static final String[] FACE = {
        "int row(int, int, int, int) " + IAE + " " + ISE,
        "int scan(int) " + IAE + " " + ISE,
        "int filter(int, int, int, int) " + IAE + " " + ISE,
        "int map(int, int, int, int) " + IAE + " " + ISE,
        "int join(int, int, int, int) " + IAE + " " + ISE,
        "int group(int, int, int) " + IAE + " " + ISE,
        "int run(int) " + IAE + " ArithmeticException " + ISE,
        "int cell(int, int) IndexOutOfBoundsException",
        "int rows()",
        "int width()",
        "int batches()",
        "int written()",
        "int held()",
        "int nodes()",
        "void clear(boolean)",
    };

    public static void main(String[] args) throws IOException {
        Class<?> face = BatchPlans.class;
        int asked = Modifier.PUBLIC | Modifier.FINAL;
        Check.note("modifiers of the class", Modifier.toString(face.getModifiers()), Modifier.toString(asked));
        Check.note("what it extends", face.getSuperclass().getName(), "java.lang.Object");
        Check.note("what it implements", Arrays.toString(face.getInterfaces()), "[]");
        Check.note("methods that are seen", seenMethods(face).toString(),
                new TreeSet<>(Arrays.asList(FACE)).toString());
        checkConstructors(face);
        checkFields(face);
        checkInnerClasses(face);
        checkWords();
        Check.end();
    }

    /** Parameters' names are not seen by reflection: each line of the document's face stands in the program. */
    private static void checkWords() throws IOException {
        String document = Files.readString(Path.of("../shared/DOC.md"));
        String program = Files.readString(Path.of("src/main/java/BatchPlans.java")).replaceAll("\\s+", " ");
        int start = document.indexOf("```java\n") + "```java\n".length();
        String[] lines = document.substring(start, document.indexOf("\n}", start)).split("\n");
        Check.note("lines of the face", Integer.toString(lines.length), Integer.toString(FACE.length + 2));
        for (String line : lines) {
            String words = line.trim().replace(";", " {");
            Check.note("the words " + words, Boolean.toString(program.contains(words)), "true");
        }
    }

    private static TreeSet<String> seenMethods(Class<?> face) {
        TreeSet<String> seen = new TreeSet<>();
        TreeSet<String> hidden = new TreeSet<>();
        for (Method method : face.getDeclaredMethods()) {
            if (Modifier.isPrivate(method.getModifiers())) {
                hidden.add(method.getName());
            } else {
                seen.add(written(method));
            }
        }
        for (String line : FACE) {
            String name = line.substring(line.indexOf(' ') + 1, line.indexOf('('));
            Check.note("private method " + name, Boolean.toString(hidden.contains(name)), "false");
        }
        return seen;
    }

    private static String written(Method method) {
        StringBuilder line = new StringBuilder();
        if (method.getModifiers() != Modifier.PUBLIC) {
            line.append(Modifier.toString(method.getModifiers())).append(' ');
        }
        line.append(method.getReturnType().getSimpleName()).append(' ').append(method.getName()).append('(');
        String between = "";
        for (Class<?> type : method.getParameterTypes()) {
            line.append(between).append(type.getSimpleName());
            between = ", ";
        }
        line.append(')');
        for (Class<?> type : method.getExceptionTypes()) {
            line.append(' ').append(type.getSimpleName());
        }
        return line.toString();
    }

    private static void checkConstructors(Class<?> face) {
        Constructor<?>[] all = face.getDeclaredConstructors();
        Check.note("constructors", Integer.toString(all.length), "1");
        Check.note("the constructor", all[0].toString(), "public BatchPlans(int,int)");
    }

    private static void checkFields(Class<?> face) {
        for (Field field : face.getDeclaredFields()) {
            int modifiers = field.getModifiers();
            Check.note("field " + field.getName() + " is private",
                    Boolean.toString(Modifier.isPrivate(modifiers)), "true");
            if (Modifier.isStatic(modifiers)) {
                Check.note("static field " + field.getName() + " is final",
                        Boolean.toString(Modifier.isFinal(modifiers)), "true");
            }
        }
    }

    private static void checkInnerClasses(Class<?> face) {
        for (Class<?> inner : face.getDeclaredClasses()) {
            int modifiers = inner.getModifiers();
            Check.note("class " + inner.getSimpleName() + " is static and not shown",
                    Boolean.toString(Modifier.isStatic(modifiers) && !Modifier.isPublic(modifiers)
                            && !Modifier.isProtected(modifiers)), "true");
        }
    }
}
