import java.nio.charset.StandardCharsets;

/** What the tests share: counts of answers, and a text put on the tape. */
final class Check {
    private static int passed = 0;
    private static int failed = 0;
    private static String part = "";

    private Check() {
    }

    static void part(String name) {
        part = name;
    }

    static void due(String call, long got, long want) {
        if (got == want) {
            passed++;
            return;
        }
        failed++;
        if (failed <= 50) System.out.println(part + ": " + call + " answered " + got + ", due is " + want);
    }

    static void due(String call, boolean got, boolean want) {
        due(call, got ? 1 : 0, want ? 1 : 0);
    }

    /** Ends the test: its counts, and exit code 1 if one answer was not the one due. */
    static void end() {
        System.out.println(passed + " passed, " + failed + " failed");
        if (failed != 0) System.exit(1);
    }

    static byte[] bytes(String text) {
        return text.getBytes(StandardCharsets.ISO_8859_1);
    }

    /** The ints of the i-th feed of a text, blanks behind its end. */
    static int[] five(byte[] text, int i) {
        int[] row = new int[5];
        for (int k = 0; k < 20; k++) {
            int at = 20 * i + k;
            int b = at < text.length ? text[at] & 255 : 32;
            row[k / 4] = row[k / 4] << 8 | b;
        }
        return row;
    }

    static void put(LieClock x, byte[] text) {
        int feeds = (text.length + 19) / 20;
        for (int i = 0; i < feeds; i++) {
            int[] f = five(text, i);
            x.feed(f[0], f[1], f[2], f[3], f[4]);
        }
        x.back(20 * feeds - text.length);
    }

    static int read(LieClock x, String text) {
        put(x, bytes(text));
        return x.read();
    }

    static LieClock court(String text) {
        LieClock x = new LieClock();
        due("read of " + text, read(x, text), 0);
        return x;
    }

    /** A text's fault and its place are as due. */
    static void fault(String text, int number, int place) {
        LieClock x = new LieClock();
        due("read() of '" + text + "'", read(x, text), number);
        due("place() of '" + text + "'", x.place(), place);
    }

    static String many(String piece, int n) {
        StringBuilder b = new StringBuilder();
        for (int i = 0; i < n; i++) b.append(piece);
        return b.toString();
    }
}
