import java.io.IOException;
import java.nio.charset.StandardCharsets;
import java.nio.file.Files;
import java.nio.file.Path;

/** The example of README.md, line by line, and that it stands there so. */
public final class ReadmeTest {
    private static final Checks checks = new Checks();

    public static void main(String[] args) throws IOException {
        exampleHolds();
        exampleStandsThere(Files.readString(Path.of("README.md"), StandardCharsets.UTF_8));
        checks.end();
    }

    private static void exampleHolds() {
        TreapVersions maps = new TreapVersions(40, 8, 1);
        int one = maps.put(0, 5, 50);
        int two = maps.put(one, 3, 30);
        int low = maps.below(two, 5);
        int without = maps.remove(two, 3);
        int both = maps.join(low, without);
        checks.due("one", one, 1);
        checks.due("two", two, 2);
        checks.due("version 0", Trees.values(maps, 0), "");
        checks.due("version 1", Trees.values(maps, one), "5=50");
        checks.due("version 2", Trees.values(maps, two), "3=30 5=50");
        checks.due("low", Trees.values(maps, low), "3=30");
        checks.due("without", Trees.values(maps, without), "5=50");
        checks.due("both", Trees.values(maps, both), "3=30 5=50");
        checks.due("join(without, low)", maps.join(without, low), TreapVersions.MIXED);
        checks.due("get(two, 3)", maps.get(two, 3), 30);
        checks.due("drop(one)", maps.drop(one), true);
        checks.due("isLive(one)", maps.isLive(one), false);
    }

    private static void exampleStandsThere(String readme) {
        String[] lines = {
            "TreapVersions maps = new TreapVersions(40, 8, 1);",
            "int one = maps.put(0, 5, 50);",
            "int two = maps.put(one, 3, 30);",
            "int low = maps.below(two, 5);",
            "int without = maps.remove(two, 3);",
            "int both = maps.join(low, without);",
            "maps.join(without, low);",
            "maps.get(two, 3);",
            "maps.drop(one);",
        };
        int at = 0;
        for (String line : lines) {
            int found = readme.indexOf(line, at);
            checks.due("README.md has in its turn: " + line, found >= 0, true);
            at = Math.max(at, found);
        }
    }
}
