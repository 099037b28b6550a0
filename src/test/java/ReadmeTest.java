import java.nio.file.Files;
import java.nio.file.Path;
import java.util.ArrayList;
import java.util.List;

/** README.md's example: the same lines stand here, and answer what README.md tells behind them. */
public final class ReadmeTest {
    private static long[] answers() {
        LionRing x = new LionRing();
        int was = x.tamer(14);
        int lion = x.beast(0, 0, 2, 5);
        int cub = x.beast(6, 1, 33, 2);
        int old = x.set(lion, 0, 0);
        for (char c : "yield 3 n<9;come 1 h>2".toCharArray()) {
            x.feed(c, 1);
        }
        int ring = x.ring();
        int yields = x.of(lion, 5);
        int does = x.of(lion, 7);
        long safe = x.safe();
        int tenths = x.shortest(lion, -1);
        int first = x.shortest(lion, 0);
        int beasts = x.image();
        int caught = x.go(2);
        int there = x.of(lion, 2);
        int back = x.undo();
        int again = x.of(lion, 2);
        int row = x.tape(3, 0, 2);
        int none = x.item(3, 0, 0);
        int edge = x.item(3, 1, 35);
        int judged = x.judge(3, 0, 2);
        int act = x.act(cub, 0, 7);
        int body = x.trace(0);
        int refused = x.beast(0, 0, 2, 10);
        return new long[] {was, lion, cub, old, ring, yields, does, safe, tenths, first, beasts, caught, there, back,
            again, row, none, edge, judged, act, body, refused};
    }

    /** The lines of README.md's first block of Java. */
    private static List<String> example() throws Exception {
        List<String> lines = Files.readAllLines(Path.of("README.md"));
        int begin = lines.indexOf("```java") + 1;
        int length = lines.subList(begin, lines.size()).indexOf("```");
        return lines.subList(begin, begin + length);
    }

    private static List<String> ownLines() throws Exception {
        List<String> own = new ArrayList<>();
        for (String line : Files.readAllLines(Path.of("src/test/java/ReadmeTest.java"))) {
            own.add(line.trim());
        }
        return own;
    }

    public static void main(String[] args) throws Exception {
        long[] answers = answers();
        List<String> own = ownLines();
        int place = own.indexOf("private static long[] answers() {") + 1;
        int told = 0;
        for (String line : example()) {
            String[] parts = line.split(" *// ", 2);
            Check.due("line " + place + " of README.md's example", own.get(place), parts[0].trim());
            place++;
            if (parts.length == 2 && parts[1].matches("-?\\d+: .*")) {
                Check.due(parts[0], told < answers.length ? answers[told] : LionRing.NO,
                    Long.parseLong(parts[1].substring(0, parts[1].indexOf(':'))));
                told++;
            }
        }
        Check.due("answers that README.md tells", told, answers.length);
        Check.end();
    }
}
