import java.nio.charset.StandardCharsets;

/** What the tests share: counts of answers, and a text put on the tape. */
final class Check {
    private static int passed = 0;
    private static int failed = 0;
    private static String part = "";

    private Check() {
    }

    static void part(String name) {
        part = name;
    }

    static void due(String call, long got, long want) {
        if (got == want) {
            passed++;
            return;
        }
        failed++;
        if (failed <= 50) System.out.println(part + ": " + call + " answered " + got + ", due is " + want);
    }

    static void due(String call, boolean got, boolean want) {
        due(call, got ? 1 : 0, want ? 1 : 0);
    }

    /** Ends the test: its counts, and exit code 1 if one answer was not the one due. */
    static void end() {
        System.out.println(passed + " passed, " + failed + " failed");
        if (failed != 0) System.exit(1);
    }

    static byte[] bytes(String text) {
        return text.getBytes(StandardCharsets.ISO_8859_1);
    }

    /** The ints of the i-th feed of a text, blanks behind its end. */
    static int[] five(byte[] text, int i) {
        int[] row = new int[5];
        for (int k = 0; k < 20; k++) {
            int at = 20 * i + k;
            int b = at < text.length ? text[at] & 255 : 32;
            row[k / 4] = row[k / 4] << 8 | b;
        }
        return row;
    }

    static void put(LieClock x, byte[] text) {
        int feeds = (text.length + 19) / 20;
        for (int i = 0; i < feeds; i++) {
            int[] f = five(text, i);
            x.feed(f[0], f[1], f[2], f[3], f[4]);
        }
        x.back(20 * feeds - text.length);
    }

    static int read(LieClock x, String text) {
        put(x, bytes(text));
        return x.read();
    }

    static LieClock court(String text) {
        LieClock x = new LieClock();
        due("read of " + text, read(x, text), 0);
        return x;
    }

    /** A text's fault and its place are as due. */
    static void fault(String text, int number, int place) {
        LieClock x = new LieClock();
        int from = Math.max(0, text.length() - 70);
        String end = (from > 0 ? ".. " : "'") + text.substring(from) + "' of " + text.length() + " bytes";
        due("read() of " + end, read(x, text), number);
        due("place() of " + end, x.place(), place);
    }

    /** All that a small court shows of itself, by calls that change nothing; some hundred calls. */
    static long[] shown(LieClock x) {
        long[] row = new long[260];
        int n = 0;
        row[n++] = x.clock();
        row[n++] = x.place();
        for (int what = 0; what < 12; what++) row[n++] = x.count(what);
        for (int i = 0; i < 3; i++) {
            for (int what = 0; what < 2; what++) row[n++] = x.fact(i, what);
            for (int what = 0; what < 6; what++) row[n++] = x.word(i, what);
            for (int what = 0; what < 4; what++) row[n++] = x.witness(i, what);
            for (int what = 0; what < 4; what++) row[n++] = x.hearing(i, what);
            row[n++] = x.share(i);
            row[n++] = x.would(i);
            row[n++] = x.states(i);
            row[n++] = x.looks(i);
            row[n++] = x.settled(i);
            row[n++] = x.fits(i);
            row[n++] = x.surely(i);
            row[n++] = x.liars(i);
        }
        row[n++] = x.smallest();
        row[n++] = x.ahead(0, 1, 0);
        row[n++] = x.order(3, true);
        row[n++] = x.never(3, 2);
        return java.util.Arrays.copyOf(row, n);
    }

    /** Nothing that a court shows has changed. */
    static void same(String call, long[] now, long[] before) {
        due("what is shown behind " + call, java.util.Arrays.equals(now, before), true);
    }

    static String many(String piece, int n) {
        StringBuilder b = new StringBuilder();
        for (int i = 0; i < n; i++) b.append(piece);
        return b.toString();
    }
}
