import java.util.ArrayList;
import java.util.List;
import java.util.Random;

/** Runs of calls by a fixed seed, answered by LieClock and by the plain Model alike. */
public final class ModelTest {
    private static Random random = new Random(1);

    public static void main(String[] args) {
        int runs = args.length > 0 ? Integer.parseInt(args[0]) : 400;
        int first = args.length > 1 ? Integer.parseInt(args[1]) : 1;
        for (int run = first; run < first + runs; run++) {
            random = new Random(run);
            Check.part("model run " + run);
            oneRun(run);
        }
        Check.end();
    }

    private static int below(int n) {
        return random.nextInt(n);
    }

    private static boolean chance(int percent) {
        return below(100) < percent;
    }

    private static void oneRun(int run) {
        LieClock x = new LieClock();
        Model m = new Model();
        int size = run % 10 == 0 ? 16 : 2 + below(6);
        int calls = 60 + below(140);
        if (chance(90)) readText(x, m, size);
        for (int i = 0; i < calls; i++) oneCall(x, m, size);
    }

    private static void readText(LieClock x, Model m, int size) {
        String text = text(size);
        if (chance(35)) text = spoiled(text);
        if (text.length() > 2000) text = text.substring(0, 2000);
        x.back(x.count(9));
        m.back(m.count(9));
        byte[] bytes = Check.bytes(text);
        Check.put(x, bytes);
        m.tape = bytes;
        Check.due("read() of '" + text + "'", x.read(), m.read());
        Check.due("place() of '" + text + "'", x.place(), m.place);
    }

    // ---- texts

    private static String name(int i) {
        return new String[] {"a", "bb", "rain", "doorbell", "gun", "nope", "ands", "x"}[i & 7];
    }

    private static String text(int size) {
        StringBuilder b = new StringBuilder();
        int facts = 1 + below(6);
        int witnesses = 1 + below(chance(50) ? 2 : 6);
        int cases = below(9);
        int words = size == 16 ? 12 + below(5) : 1 + below(size);
        for (int i = 0; i < facts; i++) {
            b.append("fact ").append(name(i)).append(chance(50) ? " yes" : " no");
            b.append(chance(20) ? " open;" : ";").append(blank());
        }
        for (int i = 0; i < witnesses; i++) b.append("witness w").append((char) ('a' + i)).append(";");
        int clock = chance(20) ? 2879 - below(4) : chance(30) ? 1430 + below(15) : below(4);
        if (chance(70)) b.append("clock ").append(clock).append(";").append(blank());
        for (int i = 0; i < words; i++) {
            b.append("word w").append((char) ('a' + below(witnesses)));
            b.append(chance(35) ? " self=" : "=").append(cond(facts, 0)).append(";").append(blank());
        }
        for (int i = 0; i < cases; i++) {
            int due = Math.min(2879, chance(15) ? below(2880) : clock + below(12));
            b.append("case c").append((char) ('a' + i)).append(' ').append(due).append(" =");
            b.append(blank()).append(cond(facts, 0)).append(";");
        }
        if (chance(80)) b.append("back ").append(law(0)).append(";");
        if (chance(80)) b.append("forth ").append(law(0)).append(";");
        if (chance(10)) b.append("back 3;");
        return b.toString();
    }

    private static String blank() {
        return chance(70) ? " " : chance(50) ? "\n\t" : "\r ";
    }

    private static String cond(int facts, int depth) {
        if (depth > 3 || chance(45)) return (chance(40) ? " not " : " ") + name(below(facts)) + " ";
        String join = chance(50) ? " and " : " or ";
        if (chance(50)) return "(" + cond(facts, depth + 1) + join + cond(facts, depth + 1) + ")";
        if (chance(30)) return " not not(" + cond(facts, depth + 1) + ")";
        return cond(facts, depth + 1) + join + cond(facts, depth + 1);
    }

    private static String law(int depth) {
        if (depth > 3 || chance(40)) {
            return chance(40) ? String.valueOf(chance(10) ? below(10000) : below(6))
                : new String[] {"lies", "said", "minute", "heard", "open"}[below(5)];
        }
        String sign = new String[] {" + ", "-", "*", " /"}[below(4)];
        if (chance(40)) return "(" + law(depth + 1) + sign + law(depth + 1) + ")";
        return law(depth + 1) + sign + law(depth + 1);
    }

    private static String spoiled(String text) {
        StringBuilder b = new StringBuilder(text);
        int times = 1 + below(2);
        for (int i = 0; i < times; i++) {
            int at = below(b.length() + 1);
            switch (below(6)) {
                case 0: b.setLength(at); break;
                case 1: b.insert(at, piece()); break;
                case 2: if (at < b.length()) b.deleteCharAt(at); break;
                case 3: b.insert(at, (char) below(256)); break;
                case 4: b.append(piece()).append(piece()); break;
                default: b.append(whole());
            }
        }
        return b.toString();
    }

    private static String piece() {
        String[] all = {"fact ", " yes", " no ", " open ", " witness ", " word ", " self ", " case ", " back ",
            " forth ", " clock ", " or ", " and ", " not ", " lies ", " said ", " minute ", " heard ", ";", "=", "+",
            "-", "*", "/", "(", ")", " a ", " bb ", " wa ", " 12 ", " 2880 ", " 2879 ", " 12345 ", " abcdefghi ",
            "((((((", "(((((((", " not not not not not not not not not "};
        return all[below(all.length)];
    }

    private static String whole() {
        String[] all = {"fact a yes;", "fact new no open;", "witness wa;", "witness v;", "word wa = a;",
            "word nobody = a;", "word wa = nothing;", "word wa self = wa;", "case ca 3 = a;", "case z 2880 = a;",
            "case y 9999 = nothing;", "clock 2880;", "clock 7;", "back 1/0;", "forth ((((((1))))));",
            "back (((((((1)))))));", "word wa = ((((((a))))));", "word wa = (((((((a)))))));",
            Check.many("clock 1;", 100), Check.many("witness v;", 7), Check.many("fact f yes;", 6),
            Check.many("word wa = a;", 16), Check.many("case z 1 = a;", 8),
            "word wa =" + Check.many(" not", 380) + " a;"};
        return all[below(all.length)];
    }

    // ---- calls

    private static int some(int n) {
        return chance(6) ? new int[] {-1, n, n + 1, Integer.MIN_VALUE, Integer.MAX_VALUE}[below(5)]
            : n == 0 ? 0 : below(n);
    }

    private static int someSet(Model m, int most) {
        int n = m.count(2);
        if (chance(6)) return new int[] {-1, 1 << n, Integer.MIN_VALUE, 1 << 16, 127}[below(5)];
        int set = 0;
        for (int i = 0; i < most; i++) if (n > 0 && chance(80)) set |= 1 << below(n);
        return set;
    }

    private static void oneCall(LieClock x, Model m, int size) {
        int kind = below(100);
        if (kind < 30) act(x, m);
        else if (kind < 60) ask(x, m);
        else if (kind < 75) wonder(x, m, size);
        else if (kind < 90) keepBook(x, m, size);
        else if (kind < 97) keepSlots(x, m);
        else if (chance(20)) readText(x, m, size);
        else feedSome(x, m);
        Check.due("clock()", x.clock(), m.now.clock);
    }

    private static void act(LieClock x, Model m) {
        int kind = below(10);
        int w = some(m.count(2));
        int f = some(m.count(0));
        int n = chance(3) ? 3000 + below(2) : chance(5) ? -below(3) : below(5);
        if (kind < 6) Check.due("say(" + w + ")", x.say(w), m.say(w));
        else if (kind < 7) Check.due("look(" + f + ")", x.look(f), m.look(f));
        else if (kind < 8) Check.due("pause(" + n + ")", x.pause(n), m.pause(n));
        else Check.due("undo()", x.undo(), m.undo());
    }

    private static void ask(LieClock x, Model m) {
        int w = some(m.count(2));
        int f = some(m.count(0));
        int i = some(m.count(1));
        int c = some(m.count(3));
        int what = below(14) - 1;
        Check.due("count(" + what + ")", x.count(what), m.count(what));
        what = below(8) - 1;
        Check.due("fact(" + f + ", " + what + ")", x.fact(f, what), m.fact(f, what));
        Check.due("word(" + w + ", " + what + ")", x.word(w, what), m.word(w, what));
        Check.due("witness(" + i + ", " + what + ")", x.witness(i, what), m.witness(i, what));
        Check.due("share(" + i + ")", x.share(i), m.share(i));
        Check.due("hearing(" + c + ", " + what + ")", x.hearing(c, what), m.hearing(c, what));
        Check.due("would(" + w + ")", x.would(w), m.would(w));
        Check.due("place()", x.place(), m.place);
    }

    private static void wonder(LieClock x, Model m, int size) {
        int w = some(m.count(2));
        int c = some(m.count(3));
        int d = some(m.count(3));
        int set = someSet(m, size == 16 ? 3 : 5);
        int wide = someSet(m, 16);
        int i = below(7) - 1;
        int minute = m.now.clock + below(12) - 3;
        boolean late = chance(50);
        switch (below(7)) {
            case 0:
                if (size == 16 && chance(80)) break;
                Check.due("ahead(" + c + ", " + d + ", " + i + ")", x.ahead(c, d, i), m.ahead(c, d, i));
                Check.due("ahead(" + c + ", " + d + ", 1)", x.ahead(c, d, 1), m.ahead(c, d, 1));
                Check.due("aheadAt(" + c + ", " + d + ", " + i + ")", x.aheadAt(c, d, i), m.aheadAt(c, d, i));
                break;
            case 1:
                Check.due("order(" + set + ", " + late + ")", x.order(set, late), m.order(set, late));
                Check.due("orderAt(" + set + ", " + late + ", " + i + ")", x.orderAt(set, late, i),
                    m.orderAt(set, late, i));
                break;
            case 2: Check.due("never(" + set + ", " + minute + ")", x.never(set, minute), m.never(set, minute)); break;
            case 3:
                if (size == 16 && chance(80)) break;
                Check.due("smallest()", x.smallest(), m.smallest());
                break;
            case 4: Check.due("states(" + wide + ")", x.states(wide), m.states(wide)); break;
            case 5: Check.due("looks(" + w + ")", x.looks(w), m.looks(w)); break;
            default:
                if (size == 16 && chance(80)) break;
                Check.due("settled(" + c + ")", x.settled(c), m.settled(c));
        }
    }

    /** Readings that some row gives, mostly, so that rows are found. */
    private static void keepBook(LieClock x, Model m, int size) {
        if (chance(25)) {
            Check.due("burn()", x.burn(), m.burn());
            int most = size == 16 ? 2 : below(6);
            Model.Court c = m.new Court();
            List<Integer> readings = new ArrayList<>();
            for (int i = 0; i < most && m.count(2) > 0; i++) {
                c.say(below(m.count(2)));
                readings.add(chance(5) ? c.clock + 1 : c.clock);
            }
            for (int r : readings) Check.due("write(" + r + ")", x.write(r), m.write(r));
        }
        if (chance(5) && size != 16) {
            int r = new int[] {0, 100000, -100000, 100001, -100001, Integer.MIN_VALUE}[below(6)];
            Check.due("write(" + r + ")", x.write(r), m.write(r));
        }
        int k = chance(10) ? below(8) - 1 : m.count(8) - below(2);
        Check.due("fits(" + k + ")", x.fits(k), m.fits(k));
        Check.due("surely(" + k + ")", x.surely(k), m.surely(k));
        Check.due("liars(" + k + ")", x.liars(k), m.liars(k));
    }

    private static void keepSlots(LieClock x, Model m) {
        int slot = below(5) - 1;
        if (chance(50)) Check.due("hold(" + slot + ")", x.hold(slot), m.hold(slot));
        else Check.due("restore(" + slot + ")", x.restore(slot), m.restore(slot));
    }

    private static void feedSome(LieClock x, Model m) {
        int a = random.nextInt();
        int n = below(22) - 1;
        Check.due("feed", x.feed(a, a + 1, a + 2, a + 3, a + 4), m.feed(a, a + 1, a + 2, a + 3, a + 4));
        if (chance(50)) Check.due("back(" + n + ")", x.back(n), m.back(n));
        if (chance(10)) Check.due("read()", x.read(), m.read());
    }
}
