import java.io.IOException;
import java.lang.reflect.Method;
import java.lang.reflect.Modifier;
import java.nio.file.Files;
import java.nio.file.Path;
import java.util.ArrayList;
import java.util.List;

/** What README.md says of the class: each line of its example is made here, and each call is told. */
public final class ReadmeTest {
    private static final Path README = Path.of("README.md");
    private static final List<String> MADE = new ArrayList<>();

    public static void main(String[] args) throws IOException {
        String readme = Files.readString(README);
        makeExample();
        Check.due("the lines of the example", String.join("\n", exampleOf(readme)), String.join("\n", MADE));
        for (Method m : SwapGo.class.getDeclaredMethods()) {
            if (Modifier.isPublic(m.getModifiers())) {
                Check.due("README.md tells of " + m.getName(), readme.contains("| `" + m.getName() + "("), true);
            }
        }
        Check.end("ReadmeTest");
    }

    private static void makeExample() {
        SwapGo town = new SwapGo();
        MADE.add("SwapGo town = new SwapGo();");
        int cabinet = town.cabinet(10, 20, 4, 2, 1);
        made("int cabinet = town.cabinet(10, 20, 4, 2, 1);", cabinet);
        made("int pack = town.pack(cabinet, 60);", town.pack(cabinet, 60));
        made("town.run(1);", town.run(1));
        made("town.in(cabinet, 3);", town.in(cabinet, 3));
        int given = town.take(cabinet);
        made("int given = town.take(cabinet);", given);
        made("town.of(given, 2);", town.of(given, 2));
        made("town.bring(cabinet, given, 15);", town.bring(cabinet, given, 15));
        made("town.take(cabinet);", town.take(cabinet));
        made("town.price(2, 3);", town.price(2, 3));
        made("town.need(1);", town.need(1));
        made("town.need(0);", town.need(0));
        made("town.need(3);", town.need(3));
        made("town.plan(2);", town.plan(2));
        made("town.planned(1);", town.planned(1));
        made("town.wish(cabinet, 0);", town.wish(cabinet, 0));
        made("town.round();", town.round());
        made("town.stop(0);", town.stop(0));
        made("town.point(0, 50, 50);", town.point(0, 50, 50));
        made("town.point(1, 40, 50);", town.point(1, 40, 50));
        made("town.places(1);", town.places(1));
        made("town.chosen();", town.chosen());
    }

    private static void made(String line, Object answer) {
        MADE.add(line + " // " + answer);
    }

    /** The example's lines without the words behind each answer. */
    private static List<String> exampleOf(String readme) {
        String[] parts = readme.split("```java\n|```\n");
        List<String> lines = new ArrayList<>();
        for (String line : (parts.length > 1 ? parts[1] : "").split("\n")) {
            lines.add(line.replaceAll("\\s+//\\s+([^:]*):.*", " // $1"));
        }
        return lines;
    }
}
