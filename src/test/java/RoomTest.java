import java.lang.management.ManagementFactory;

/** The dearest runs of 512 calls stay far below the one room that all calls of a run live in. */
public final class RoomTest {
    /** 7.3 million elements, were each of them but one byte. */
    private static final long ROOM_BYTES = 7_300_000;

    public static void main(String[] args) {
        Check.part("the room");
        String varied = court() + "back said+lies;forth said*3+lies+open-heard;";
        room("fits", court() + "back 0;forth 0;", new int[] {0, 1, 2});
        room("ahead", varied, new int[] {3, 4, 5});
        room("sets and orders", varied, new int[] {6, 7, 8, 9});
        room("reads", varied, new int[] {10});
        room("slots", varied, new int[] {11, 12, 13});
        Check.end();
    }

    private static String court() {
        StringBuilder b = new StringBuilder();
        for (int i = 0; i < 6; i++) b.append("fact ").append((char) ('a' + i)).append(i % 2 == 0 ? " yes;" : " no;");
        for (int i = 0; i < 6; i++) b.append("witness w").append((char) ('a' + i)).append(';');
        String[] conds = {"a", "b", "not a", "not b", "c and d", "e or f", "not c", "d", "e", "f", "not e", "not f",
            "a and b", "c or b", "d or e", "not d"};
        for (int i = 0; i < 16; i++) {
            b.append("word w").append((char) ('a' + i % 6)).append(i % 3 == 0 ? " self=" : "=").append(conds[i]);
            b.append(';');
        }
        for (int i = 0; i < 8; i++) b.append("case c").append((char) ('a' + i)).append(' ').append(90 * i + 9).append("=a;");
        return b.toString();
    }

    private static void room(String name, String court, int[] kinds) {
        byte[] text = Check.bytes(court);
        int[][] feeds = new int[(text.length + 19) / 20][];
        for (int i = 0; i < feeds.length; i++) feeds[i] = Check.five(text, i);
        call(new LieClock(), 0, 0, feeds);
        com.sun.management.ThreadMXBean bean =
            (com.sun.management.ThreadMXBean) ManagementFactory.getThreadMXBean();
        long thread = Thread.currentThread().getId();
        long before = bean.getThreadAllocatedBytes(thread);
        LieClock x = new LieClock();
        for (int[] f : feeds) x.feed(f[0], f[1], f[2], f[3], f[4]);
        x.read();
        for (int i = 0; i < 512; i++) call(x, kinds[i % kinds.length], i, feeds);
        long used = bean.getThreadAllocatedBytes(thread) - before;
        System.out.println(name + ": " + used + " bytes made");
        Check.due(name + " stays below the room", used < ROOM_BYTES, true);
    }

    private static void call(LieClock x, int kind, int i, int[][] feeds) {
        int[] f = feeds[i % feeds.length];
        switch (kind) {
            case 0: x.write(x.count(8) + 1); break;
            case 1: x.fits(x.count(8)); break;
            case 2: if (x.count(8) == 5) x.burn(); break;
            case 3: x.ahead(i % 8, (i + 3) % 8, 0); break;
            case 4: x.say(i % 16); break;
            case 5: x.undo(); break;
            case 6: x.order(63 << i % 10, i % 2 == 0); break;
            case 7: x.never(63 << i % 10, i); break;
            case 8: x.smallest(); break;
            case 9: x.settled(i % 8); break;
            case 10: if (i % (feeds.length + 1) == feeds.length) x.read(); else x.feed(f[0], f[1], f[2], f[3], f[4]); break;
            case 11: x.hold(i % 3); break;
            case 12: x.feed(f[0], f[1], f[2], f[3], f[4]); break;
            default: x.restore(i % 3);
        }
    }
}
