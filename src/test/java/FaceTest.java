import java.io.IOException;
import java.lang.reflect.Constructor;
import java.lang.reflect.Field;
import java.lang.reflect.Method;
import java.lang.reflect.Modifier;
import java.nio.file.Files;
import java.nio.file.Path;
import java.util.ArrayList;
import java.util.Arrays;
import java.util.List;
import java.util.Set;
import java.util.TreeSet;
import java.util.stream.Collectors;

/** The public face is the document's, and the source keeps to those rules of LANGUAGE.md that a look at it shows. */
public final class FaceTest {
    private static final List<String> METHODS = List.of(
        "int take(int,int) IndexOutOfBoundsException,IllegalArgumentException,IllegalStateException",
        "int turn(int) IllegalArgumentException",
        "int knock(int,int) IndexOutOfBoundsException,IllegalStateException",
        "int put(int,int) IndexOutOfBoundsException,IllegalStateException",
        "int mirror() ",
        "int refill() ",
        "int set(int,int) IndexOutOfBoundsException,IllegalArgumentException",
        "int append(int) IllegalArgumentException,IllegalStateException",
        "int clearBuffer() ",
        "int firstError() ",
        "int obey() IllegalArgumentException",
        "int keep() ",
        "int goBack() IllegalStateException",
        "int undo() IllegalStateException",
        "int row(int,int) IndexOutOfBoundsException,IllegalArgumentException",
        "int count(int) IllegalArgumentException",
        "int setting(int) IndexOutOfBoundsException",
        "int why(int,int) IndexOutOfBoundsException,IllegalArgumentException",
        "int falls(int,int) IndexOutOfBoundsException,IllegalArgumentException",
        "int wins(int) IllegalArgumentException",
        "int best() ",
        "int length(int) IllegalArgumentException",
        "int pyramids(int) IllegalArgumentException",
        "double brokenShare() ",
        "float wonShare() ",
        "long digest() ");
    private static final List<String> RULED_OUT = List.of("import ", "package ", "->", "::", "catch", "finally",
        "synchronized", "assert ", "Exact(", "Double.", "Float.", "java.", "protected ", "static {");

    private static int wrong = 0;

    public static void main(String[] args) throws IOException {
        Class<?> face = BottlePyramid.class;
        due("modifiers of the class", face.getModifiers(), Modifier.PUBLIC | Modifier.FINAL);
        due("methods", methods(face), new TreeSet<>(METHODS));
        due("constructors", Arrays.stream(face.getDeclaredConstructors()).map(Constructor::toString).toList(),
            List.of("public BottlePyramid()"));
        due("constants", Arrays.stream(face.getDeclaredFields()).filter(field -> !isPrivate(field.getModifiers()))
            .map(Field::toString).toList(), List.of("public static final int BottlePyramid.NONE"));
        due("NONE", BottlePyramid.NONE, -1);
        privateNamesDiffer(face);
        keepsToTheSizes(face);
        String source = Files.readString(Path.of("src/main/java/BottlePyramid.java"));
        RULED_OUT.forEach(text -> due("that '" + text + "' is in the source", source.contains(text), false));
        due("that a sign above 127 is in the source", source.chars().anyMatch(sign -> sign > 127), false);
        System.out.println(wrong == 0 ? "the face is as due" : wrong + " things of the face are not as due");
        if (wrong > 0) {
            System.exit(1);
        }
    }

    private static void due(String what, Object got, Object want) {
        if (!got.equals(want)) {
            wrong++;
            System.out.println(what + ": " + got + ", due is " + want);
        }
    }

    private static boolean isPrivate(int modifiers) {
        return Modifier.isPrivate(modifiers);
    }

    private static Set<String> methods(Class<?> face) {
        return Arrays.stream(face.getDeclaredMethods()).filter(method -> !isPrivate(method.getModifiers()))
            .map(FaceTest::told).collect(Collectors.toCollection(TreeSet::new));
    }

    private static String told(Method method) {
        return method.getReturnType() + " " + method.getName() + "(" + names(method.getParameterTypes()) + ") "
            + names(method.getExceptionTypes());
    }

    private static String names(Class<?>[] types) {
        return Arrays.stream(types).map(Class::getSimpleName).collect(Collectors.joining(","));
    }

    private static void privateNamesDiffer(Class<?> face) {
        Set<String> open = Arrays.stream(face.getMethods()).map(Method::getName).collect(Collectors.toSet());
        for (Class<?> inside : face.getDeclaredClasses()) {
            for (Method method : inside.getDeclaredMethods()) {
                due("that " + method + " bears a public name", open.contains(method.getName()), false);
            }
        }
        for (Method method : face.getDeclaredMethods()) {
            if (isPrivate(method.getModifiers())) {
                due("that " + method + " bears a public name", open.contains(method.getName()), false);
            }
        }
    }

    /** The limits of rule 11, and rule 5: static fields are final. */
    private static void keepsToTheSizes(Class<?> face) {
        List<Class<?>> classes = new ArrayList<>(List.of(face.getDeclaredClasses()));
        classes.add(face);
        due("that there are more than 12 classes", classes.size() > 12, false);
        for (Class<?> each : classes) {
            long fields = Arrays.stream(each.getDeclaredFields())
                .filter(field -> !Modifier.isStatic(field.getModifiers())).count();
            due("that " + each + " has more than 20 fields", fields > 20, false);
            for (Field field : each.getDeclaredFields()) {
                int modifiers = field.getModifiers();
                due("that " + field + " is static and changes",
                    Modifier.isStatic(modifiers) && !Modifier.isFinal(modifiers), false);
            }
            for (Method method : each.getDeclaredMethods()) {
                due("that " + method + " takes more than 7", method.getParameterCount() > 7, false);
            }
        }
    }
}
