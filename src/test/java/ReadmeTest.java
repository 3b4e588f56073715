import java.io.IOException;
import java.nio.file.Files;
import java.nio.file.Path;
import java.util.List;
import java.util.stream.Collectors;
import java.util.stream.Stream;

/** README.md: its example answers as it says, and it names every call and every test. */
public final class ReadmeTest {
    private static final List<String> EXAMPLE = List.of(
        "TextureUnits x = new TextureUnits();",
        "x.poke(0, 0xFF0000FF);",
        "x.poke(1, 0xFF00FF00);",
        "x.picture(0, 0, 1, 0, 1, 0);",
        "x.manner(0, 1, 1, 1);",
        "int r = x.read(0, 32768, 0, 0);   // in the middle across: 32768",
        "int g = x.also(1);                // the same reading's green: 32768");

    private static final List<String> CALLS = List.of(
        "`poke(k, v)`", "`picture(unit, from, a, b, levels, format)`",
        "`manner(unit, across, down, filter)`", "`border(unit, r, g, b, a)`",
        "`texel(unit, level, x, y, channel)`", "`texels(unit)`", "`read(unit, s, t, l)`",
        "`also(channel)`", ".ci/run");

    public static void main(String[] args) throws IOException {
        String readme = Files.readString(Path.of("README.md"));
        for (String line : EXAMPLE) {
            named(readme, line);
        }
        for (String call : CALLS) {
            named(readme, call);
        }
        for (String test : tests()) {
            named(readme, "| `" + test + "` |");
        }
        runExample();
        Check.end();
    }

    private static void runExample() {
        TextureUnits x = new TextureUnits();
        x.poke(0, 0xFF0000FF);
        x.poke(1, 0xFF00FF00);
        x.picture(0, 0, 1, 0, 1, 0);
        x.manner(0, 1, 1, 1);
        Check.due("the example's r", x.read(0, 32768, 0, 0), 32768);
        Check.due("the example's g", x.also(1), 32768);
    }

    private static void named(String readme, String text) {
        if (!readme.contains(text)) {
            Check.say("README.md does not have: " + text);
        }
    }

    private static List<String> tests() throws IOException {
        try (Stream<Path> files = Files.list(Path.of("src/test/java"))) {
            return files.map(file -> file.getFileName().toString())
                .filter(name -> name.endsWith("Test.java"))
                .map(name -> name.substring(0, name.length() - ".java".length()))
                .sorted()
                .collect(Collectors.toList());
        }
    }
}
