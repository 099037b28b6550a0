/** The dearest calls, as often as one object answers: all must end, and make next to nothing. */
public final class DearestTest {
    private static LionRing crowd(String text) {
        LionRing x = new LionRing();
        x.tamer(14);
        int[] cells = {0, 5, 30, 17, 32, 20};
        for (int i = 0; i < 6; i++) {
            x.beast(i == 5 ? 0 : 2, 0, cells[i], i);
        }
        x.set(5, 0, 5 + 6);
        for (int at = 0; at < text.length(); at += 4) {
            int bytes = 0;
            int n = Math.min(4, text.length() - at);
            for (int i = 0; i < n; i++) {
                bytes = bytes << 8 | text.charAt(at + i);
            }
            x.feed(bytes, n);
        }
        Check.due("reading " + text, x.ring(), 0);
        return x;
    }

    public static void main(String[] args) {
        String e = "!b=9&!c=9&!h>9";
        LionRing x = crowd("yield 1 " + e + ";come 1 " + e + ";yield 1 " + e + ";come 1 " + e);
        long before = Runtime.getRuntime().totalMemory() - Runtime.getRuntime().freeMemory();
        int first = x.shortest(5, -1);
        int seats = x.seats(-1);
        int sit = x.sit();
        for (int i = 0; i < 120; i++) {
            Check.due("shortest(5, -1)", x.shortest(5, -1), first);
            Check.due("seats(-1)", x.seats(-1), seats);
            Check.due("sit()", x.sit(), sit);
            Check.due("calm(6, 1)", x.calm(6, 1) > 0 ? 1 : 0, 1);
        }
        long after = Runtime.getRuntime().totalMemory() - Runtime.getRuntime().freeMemory();
        Check.due("more than 100 MB made", after - before > 100_000_000 ? 1 : 0, 0);
        Check.end();
    }
}
