import java.io.IOException;
import java.lang.reflect.Method;
import java.lang.reflect.Modifier;
import java.nio.file.Files;
import java.nio.file.Path;
import java.util.List;

/** README.md names every call, and its example, which stands here line for line, does what its comments say. */
public final class ReadmeTest extends Check {
    private static final Path README = Path.of("README.md");
    private static final Path THIS = Path.of("src/test/java/ReadmeTest.java");

    public static void main(String[] args) throws IOException {
        at("README.md");
        namesEveryCall(Files.readString(README));
        due("the example", between(README, "```java", "```"), between(THIS, "// as in README", "// up to here"));
        example();
        end("all that README.md says of the calls");
    }

    private static void namesEveryCall(String readme) {
        for (Method method : BottlePyramid.class.getDeclaredMethods()) {
            if (Modifier.isPublic(method.getModifiers())) {
                String name = method.getName();
                due("whether " + name + " is named", readme.contains("`" + name + "("), true);
            }
        }
    }

    private static List<String> between(Path file, String first, String last) throws IOException {
        List<String> lines = Files.readAllLines(file).stream().map(String::strip).toList();
        int from = lines.indexOf(first) + 1;
        List<String> rest = lines.subList(from, lines.size());
        return rest.subList(0, rest.indexOf(last));
    }

    private static void example() {
        // as in README
        BottlePyramid pyramid = new BottlePyramid();
        pyramid.set(0, 2);                               // up to 2 bottles a theft
        int best = pyramid.best();                       // 32: from the row 3, 2 bottles
        int fallen = pyramid.take(best / 10, best % 10); // 1: the top falls
        for (char code : "t01;m".toCharArray()) {
            pyramid.append(code);
        }
        int done = pyramid.obey();                       // 2: a theft, then the pyramid is mirrored
        int saved = pyramid.undo();                      // 2 saved states are left; both orders are taken back
        // up to here
        due("the best theft", best, 32);
        due("what falls by it", fallen, 1);
        due("orders done", done, 2);
        due("saved states", saved, 2);
        due("the rows 0 to 2, which are full again", pyramid.count(0), FULL - bit(3, 0) - bit(3, 1) - bit(4, 0));
    }
}
