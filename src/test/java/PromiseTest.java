/** Each promise by hand: ordinary inputs, the edges that the document names, and wrong inputs. */
public final class PromiseTest {
    private static final String PAIR = "fact a yes;witness w;word w=a;word w=not a;back 3;";
    private static final int LEAST = Integer.MIN_VALUE;
    private static final int MOST = Integer.MAX_VALUE;

    public static void main(String[] args) {
        newObject();
        feed();
        back();
        read();
        syntax();
        room();
        names();
        place();
        clock();
        fact();
        word();
        witness();
        share();
        hearing();
        say();
        laws();
        dayEnds();
        look();
        pause();
        undo();
        would();
        ahead();
        aheadAt();
        order();
        orderAt();
        never();
        smallest();
        states();
        looks();
        settled();
        write();
        burn();
        fits();
        surely();
        liars();
        hold();
        restore();
        count();
        full();
        Check.end();
    }

    private static void newObject() {
        Check.part("promise 1");
        LieClock x = new LieClock();
        for (int what = 0; what < 12; what++) Check.due("count(" + what + ")", x.count(what), 0);
        Check.due("clock()", x.clock(), 0);
        Check.due("place()", x.place(), -1);
        Check.due("states(0)", x.states(0), 1);
        Check.due("order(0, false)", x.order(0, false), 0);
        Check.due("fits(0)", x.fits(0), 1);
        Check.due("smallest()", x.smallest(), -2);
        Check.due("undo()", x.undo(), false);
        Check.due("restore(0)", x.restore(0), false);
        Check.due("pause(2)", x.pause(2), 2);
        Check.due("NONE", LieClock.NONE, -1);
    }

    private static void feed() {
        Check.part("promise 2");
        LieClock x = new LieClock();
        int fact = 'f' << 24 | 'a' << 16 | 'c' << 8 | 't';
        int name = ' ' << 24 | 'a' << 16 | ' ' << 8 | 'y';
        int rest = 'e' << 24 | 's' << 16 | ';' << 8 | ' ';
        int blank = 0x20202020;
        Check.due("feed", x.feed(fact, name, rest, blank, blank), 20);
        Check.due("read()", x.read(), 0);
        Check.due("fact(0, 0)", x.fact(0, 0), 1);
        for (int i = 1; i <= 100; i++) Check.due("feed " + i, x.feed(blank, blank, blank, blank, blank), 20 * i);
        Check.due("feed 101", x.feed(blank, blank, blank, blank, blank), -1);
        Check.due("count(9)", x.count(9), 2000);
        Check.due("back(19)", x.back(19), 1981);
        Check.due("feed behind 1981", x.feed(blank, blank, blank, blank, blank), -1);
        Check.due("back(1)", x.back(1), 1980);
        Check.due("feed behind 1980", x.feed(LEAST, MOST, -1, 0, 1), 2000);
        Check.due("read()", x.read(), 1);
        Check.due("place()", x.place(), 1980);
    }

    private static void back() {
        Check.part("promise 3");
        LieClock x = new LieClock();
        Check.due("back(0)", x.back(0), 0);
        Check.due("back(1)", x.back(1), -1);
        x.feed(0, 0, 0, 0, 0);
        Check.due("back(-1)", x.back(-1), -1);
        Check.due("back(least)", x.back(LEAST), -1);
        Check.due("back(21)", x.back(21), -1);
        Check.due("back(most)", x.back(MOST), -1);
        Check.due("back(0)", x.back(0), 20);
        Check.due("back(7)", x.back(7), 13);
        Check.due("back(13)", x.back(13), 0);
        Check.due("read()", x.read(), 0);
    }

    private static void read() {
        Check.part("promise 4");
        LieClock x = Check.court(PAIR);
        x.say(0);
        x.write(1);
        x.hold(0);
        x.hold(1);
        x.hold(2);
        Check.due("faulty read", Check.read(x, "fact a yes"), 1);
        Check.due("count(9)", x.count(9), 0);
        Check.due("count(5)", x.count(5), 1);
        Check.due("count(8)", x.count(8), 1);
        Check.due("count(10)", x.count(10), 1);
        Check.due("count(11)", x.count(11), 3);
        Check.due("clock()", x.clock(), 1);
        Check.due("good read", Check.read(x, "fact b no;clock 9;"), 0);
        Check.due("clock()", x.clock(), 9);
        int[] counts = {1, 0, 0, 0, 0, 0, 0, 0, 0, 0, 0, 0};
        for (int what = 0; what < 12; what++) Check.due("count(" + what + ")", x.count(what), counts[what]);
        Check.due("undo()", x.undo(), false);
        Check.due("restore(2)", x.restore(2), false);
        Check.due("empty read", x.read(), 0);
        Check.due("count(0)", x.count(0), 0);
        Check.due("clock()", x.clock(), 0);
    }

    private static void syntax() {
        Check.part("promise 4, SYNTAX");
        Check.fault("", 0, -1);
        Check.fault(" \t\r\n ", 0, -1);
        Check.fault("\f", 1, 0);
        Check.fault("fact a maybe;", 1, 7);
        Check.fault("fact a yes", 1, 10);
        Check.fault("fact a yes  ", 1, 12);
        Check.fault("fact abcdefgh yes;", 0, -1);
        Check.fault("fact abcdefghi yes;", 1, 5);
        Check.fault("fact zzzzzzzz yes;witness az;word az=zzzzzzzz;", 0, -1);
        Check.fault("fact a{ yes;", 1, 6);
        Check.fault("fact ` yes;", 1, 5);
        Check.fault("clock 09;clock 90;", 0, -1);
        Check.fault("clock :;", 1, 6);
        Check.fault("fact open yes;", 1, 5);
        Check.fault("fact minute yes;", 1, 5);
        Check.fault("Fact a yes;", 1, 0);
        Check.fault("fact a1 yes;", 1, 6);
        Check.fault("fact a open yes;", 1, 7);
        Check.fault("fact a yes open open;", 1, 16);
        Check.fault("fact a yes.", 1, 10);
        Check.fault("fact a yes;\u00e4", 1, 11);
        Check.fault("fact a yes;\u0000", 1, 11);
        Check.fault(";", 1, 0);
        Check.fault("a", 1, 0);
        Check.fault("witness w yes;", 1, 10);
        Check.fault("clock 12345;", 1, 6);
        Check.fault("clock 0007;", 0, -1);
        Check.fault("clock5;", 0, -1);
        Check.fault("clock -5;", 1, 6);
        Check.fault("clock 1+1;", 1, 7);
        Check.fault("back 1+;", 1, 7);
        Check.fault("back -1;", 1, 5);
        Check.fault("back (1;", 1, 7);
        Check.fault("back 1);", 1, 6);
        Check.fault("back 1.5;", 1, 6);
        Check.fault("back a;", 1, 5);
        Check.fault("back;", 1, 4);
        Check.fault("back 9999+lies*said/minute-heard+open;", 0, -1);
        Check.fault("witness w;word w = not;", 1, 22);
        Check.fault("fact a yes;witness w;word w = a and or a;", 1, 36);
        Check.fault("fact a yes;witness w;word w = a a;", 1, 32);
        Check.fault("fact a yes;witness w;word w = (a or a;", 1, 37);
        Check.fault("fact a yes;witness w;word w = ();", 1, 31);
        Check.fault("fact a yes;witness w;word self = a;", 1, 26);
        Check.fault("fact a yes;case c = a;", 1, 18);
    }

    private static void room() {
        Check.part("promise 4, ROOM");
        String facts = "fact a yes;fact b yes;fact c yes;fact d yes;fact e yes;fact f yes;";
        Check.fault(facts, 0, -1);
        Check.fault(facts + "fact g yes;", 2, 66);
        Check.fault(facts + "fact", 2, 66);
        Check.fault(facts + "witness ;", 1, 74);
        Check.fault(Check.many("fact a yes;", 7), 2, 66);
        Check.fault("witness a;witness b;witness c;witness d;witness e;witness f;", 0, -1);
        Check.fault("witness a;witness b;witness c;witness d;witness e;witness f;witness", 2, 60);
        String one = "fact a yes;witness w;";
        Check.fault(one + Check.many("word w=a;", 16), 0, -1);
        Check.fault(one + Check.many("word w=a;", 17), 2, 165);
        Check.fault(Check.many("word w=a;", 17), 2, 144);
        Check.fault("fact a yes;" + Check.many("case c 9=a;", 8), 3, 27);
        Check.fault("fact a yes;" + Check.many("case c 9=a;", 9), 2, 99);
        Check.fault("back ((((((1))))));", 0, -1);
        Check.fault("back (((((((1)))))));", 2, 11);
        Check.fault("back ((((((;", 1, 11);
        Check.fault("back (1)+(1)+(1)+(1)+(1)+(1)+(1);", 0, -1);
        Check.fault(one + "word w=((((((a))))));", 0, -1);
        Check.fault(one + "word w=(((((((a)))))));", 2, 34);
        Check.fault(one + "word w=not(((not((not(a))))));", 0, -1);
        Check.fault(one + "word w=not(((not((not(not(a)))))));", 2, 46);
        Check.fault(one + "word w=" + Check.many("not ", 380) + "a;", 0, -1);
        Check.fault(one + "word w=" + Check.many("not ", 400) + "a;", 2, 28 + 4 * 390);
        String clocks = Check.many("clock 1;", 133);
        Check.fault(clocks, 0, -1);
        Check.fault(clocks + "clock", 1, 1069);
        Check.fault(clocks + "clock 1;", 2, 1070);
        Check.fault(clocks + "clock ;", 1, 1070);
        Check.fault(clocks + "clock 12345", 1, 1070);
        String full = Check.many("clock 1;", 130) + "fact a yes open;fact b yes open;";
        Check.fault(full, 0, -1);
        Check.fault(full + "clock", 2, 1072);
        Check.fault(full + "yes", 1, 1072);
        Check.fault(full + "#", 1, 1072);
    }

    private static void names() {
        Check.part("promise 4, TWICE, NAME, WRONG");
        Check.fault("fact a yes;fact a no;", 3, 16);
        Check.fault("fact a yes;witness a;", 3, 19);
        Check.fault("fact a yes;witness w;case w 1=a;", 3, 26);
        Check.fault("fact a yes;case c 1=a;fact c no;", 3, 27);
        Check.fault("fact a yes;case a 2880=b;", 3, 16);
        Check.fault("fact a yes;fact a no", 1, 20);
        Check.fault("word w=a;", 4, 5);
        Check.fault("fact a yes;word a=a;", 4, 16);
        Check.fault("witness w;word w=a;fact a yes;", 4, 17);
        Check.fault("witness w;word w=w;", 4, 17);
        Check.fault("fact a yes;case c 1=c;", 4, 20);
        Check.fault("fact a yes;case c 2879=a;clock 2879;", 0, -1);
        Check.fault("fact a yes;case c 2880=a;", 5, 18);
        Check.fault("fact a yes;case c 2880=b;", 5, 18);
        Check.fault("clock 2880;", 5, 6);
        Check.fault("clock 2880;clock 1;", 5, 6);
        Check.fault("clock 2880;fact", 1, 15);
    }

    private static void place() {
        Check.part("promise 5");
        LieClock x = new LieClock();
        Check.read(x, "fact a");
        Check.due("place()", x.place(), 6);
        x.feed(0, 0, 0, 0, 0);
        x.pause(1);
        Check.due("place()", x.place(), 6);
        x.back(20);
        x.read();
        Check.due("place()", x.place(), -1);
    }

    private static void clock() {
        Check.part("promise 6");
        LieClock x = Check.court("clock 5;clock 2879;clock 12;");
        Check.due("clock()", x.clock(), 12);
        x.pause(3);
        Check.due("clock()", x.clock(), 15);
        for (int i = 0; i < 40; i++) x.pause(3000);
        Check.due("clock()", x.clock(), 100000);
        Check.due("undo()", x.undo(), true);
        Check.due("clock()", x.clock(), 100000);
        x = Check.court("fact a yes open;witness w;word w=not a;back 120;");
        x.say(0);
        Check.due("clock()", x.clock(), -119);
    }

    private static void fact() {
        Check.part("promise 7");
        LieClock x = Check.court("fact a yes;fact b no open;");
        int[][] rows = {{0, 0, 1}, {0, 1, 0}, {1, 0, 0}, {1, 1, 1}, {0, 2, -1}, {0, -1, -1}, {2, 0, -1}, {-1, 0, -1},
            {MOST, 1, -1}, {LEAST, 1, -1}};
        for (int[] r : rows) Check.due("fact(" + r[0] + ", " + r[1] + ")", x.fact(r[0], r[1]), r[2]);
        x.look(0);
        Check.due("fact(0, 1)", x.fact(0, 1), 1);
    }

    private static void word() {
        Check.part("promise 8");
        LieClock x = Check.court("fact a yes;fact b no open;witness v;witness w;word w self=a or b;word v=not a;"
            + "fact c yes;word v=not (a and b) and c;");
        int[][] before = {{1, 1, 1, 0, 0, 6}, {0, 0, 0, 0, 0, 4}, {0, 0, 1, 0, 0, 3}};
        for (int w = 0; w < 3; w++) {
            for (int what = 0; what < 6; what++) {
                Check.due("word(" + w + ", " + what + ")", x.word(w, what), before[w][what]);
            }
        }
        x.say(0);
        x.say(1);
        Check.due("word(0, 3)", x.word(0, 3), 1);
        Check.due("word(1, 4)", x.word(1, 4), 0);
        x.look(0);
        Check.due("word(1, 3)", x.word(1, 3), 1);
        Check.due("word(1, 4)", x.word(1, 4), 1);
        Check.due("word(1, 5)", x.word(1, 5), 4);
        Check.due("word(0, 6)", x.word(0, 6), -1);
        Check.due("word(0, -1)", x.word(0, -1), -1);
        Check.due("word(3, 0)", x.word(3, 0), -1);
        Check.due("word(-1, 0)", x.word(-1, 0), -1);
        Check.due("word(least, 0)", x.word(LEAST, 0), -1);
        // All six facts: 64 states, of which 'or' of all holds in 63.
        x = Check.court("fact a yes;fact b no;fact c no;fact d no;fact e no;fact f no;witness w;"
            + "word w=a or b or c or d or e or f;word w=f and not f;word w=a or not a;");
        Check.due("word(0, 5)", x.word(0, 5), 63);
        Check.due("word(1, 5)", x.word(1, 5), 0);
        Check.due("word(2, 5)", x.word(2, 5), 64);
    }

    private static void witness() {
        Check.part("promise 9");
        LieClock x = Check.court(PAIR + "witness v;");
        x.say(0);
        x.say(1);
        int[][] rows = {{0, 0, 2}, {0, 1, 1}, {0, 2, 2}, {0, 3, 1}, {1, 0, 0}, {1, 1, 0}, {1, 2, 0}, {1, 3, 1},
            {0, 4, -1}, {0, -1, -1}, {2, 0, -1}, {-1, 0, -1}, {MOST, 0, -1}};
        for (int[] r : rows) Check.due("witness(" + r[0] + ", " + r[1] + ")", x.witness(r[0], r[1]), r[2]);
    }

    private static void share() {
        Check.part("promise 10");
        LieClock x = Check.court("fact a yes;witness v;witness w;word w self=a;word w self=not a;forth 7;back 5;");
        Check.due("share(1)", x.share(1), 0);
        x.say(0);
        Check.due("share(1)", x.share(1), 7);
        x.say(0);
        Check.due("share(1)", x.share(1), 7);
        x.say(1);
        Check.due("share(1)", x.share(1), 2);
        Check.due("share(0)", x.share(0), 0);
        Check.due("share(2)", x.share(2), -1000000);
        Check.due("share(-1)", x.share(-1), -1000000);
        x.undo();
        Check.due("share(1)", x.share(1), 7);
        // As told by the law, also where the clock stays at its top.
        x = Check.court("fact a yes;witness w;word w self=a;forth 7;");
        for (int i = 0; i < 34; i++) x.pause(3000);
        Check.due("say(0)", x.say(0), 2);
        Check.due("clock()", x.clock(), 100000);
        Check.due("share(0)", x.share(0), 7);
    }

    private static void hearing() {
        Check.part("promise 11");
        LieClock x = Check.court("fact a yes;fact b no;witness v;witness w;word v=a;word w=not a;word w=b;"
            + "case p 1=a;case q 1=not a;case r 3=a and b;case s 0=a;back 2;");
        Check.due("hearing(0, 2)", x.hearing(0, 2), -2);
        Check.due("hearing(0, 3)", x.hearing(0, 3), 2);
        // The minute comes ahead of the word: it is heard as if nothing were said.
        x.say(0);
        Check.due("hearing(0, 1)", x.hearing(0, 1), 1);
        Check.due("hearing(0, 2)", x.hearing(0, 2), 2);
        Check.due("hearing(0, 3)", x.hearing(0, 3), 1);
        Check.due("hearing(1, 3)", x.hearing(1, 3), 0);
        Check.due("hearing(2, 3)", x.hearing(2, 3), 2);
        // Two witnesses against one another: none is caught, no state is left.
        x.say(1);
        Check.due("hearing(0, 3)", x.hearing(0, 3), 3);
        x.pause(1);
        Check.due("hearing(2, 2)", x.hearing(2, 2), 3);
        Check.due("hearing(3, 0)", x.hearing(3, 0), 0);
        Check.due("hearing(3, 1)", x.hearing(3, 1), 0);
        // The look opens a: w's lie is caught, and back by 2 the clock comes to 3 once more.
        x.look(0);
        Check.due("clock()", x.clock(), 2);
        x.pause(5);
        Check.due("hearing(2, 1)", x.hearing(2, 1), 2);
        Check.due("hearing(2, 2)", x.hearing(2, 2), 2);
        Check.due("hearing(0, 1)", x.hearing(0, 1), 1);
        Check.due("hearing(0, 4)", x.hearing(0, 4), -1);
        Check.due("hearing(0, -1)", x.hearing(0, -1), -1);
        Check.due("hearing(4, 0)", x.hearing(4, 0), -1);
        Check.due("hearing(-1, 0)", x.hearing(-1, 0), -1);
    }

    private static void say() {
        Check.part("promise 12");
        LieClock x = Check.court("fact a yes;fact b no;witness w;word w=a;word w self=a;word w self=not a;"
            + "word w=b;forth 0;back 1;");
        Check.due("say(-1)", x.say(-1), -1);
        Check.due("say(4)", x.say(4), -1);
        Check.due("clock()", x.clock(), 0);
        Check.due("count(10)", x.count(10), 0);
        Check.due("say(0)", x.say(0), 0);
        // FORTH was asked, though it was 0.
        Check.due("say(1)", x.say(1), 2);
        Check.due("say(1) again", x.say(1), 0);
        Check.due("clock()", x.clock(), 3);
        Check.due("say(3)", x.say(3), 0);
        // What can't stand: all of his that are not true, also the one that harmed nobody.
        Check.due("say(2)", x.say(2), 1);
        Check.due("word(2, 4)", x.word(2, 4), 1);
        Check.due("word(3, 4)", x.word(3, 4), 1);
        Check.due("word(0, 4)", x.word(0, 4), 0);
        Check.due("clock()", x.clock(), 3);
        Check.due("say(2) again", x.say(2), 0);
        Check.due("clock()", x.clock(), 4);
        // A new true word against himself, by which a lie is caught.
        x = Check.court("fact a yes;witness w;word w=not a;word w self=a;forth 10;back 3;");
        x.say(0);
        Check.due("say(1)", x.say(1), 1);
        Check.due("clock()", x.clock(), 9);
        Check.due("share(0)", x.share(0), 7);
    }

    private static void laws() {
        Check.part("promise 12, BACK and FORTH");
        int[] forth = {1, 7, 0, 120, 5, 0, 3, 2, 120, 0, 0, 6, 1, 3};
        String[] laws = {"", "forth 7;", "forth 3-9;", "forth 121;", "forth 9;forth 5;", "forth 7+1/0;",
            "forth 7/2;", "forth 2*3-8/2;", "forth 9999*9999*9999*9999*9999*9999-1;", "forth 1/(said-1);",
            "forth 5+(3/(lies-lies));", "forth 10-2-2;", "forth 8/4/2;", "forth (1-8)/2+6;"};
        for (int i = 0; i < laws.length; i++) {
            LieClock x = Check.court("fact a yes;witness w;word w self=a;" + laws[i]);
            x.say(0);
            Check.due("clock() by " + laws[i], x.clock(), 1 + held(laws[i], forth[i]));
        }
        String said = "fact a yes;fact b no open;witness w;witness v;word v=a;word w=not a;word w self=a;"
            + "case p 1=a;case q 2=a;";
        String[] vars = {"lies", "said", "minute", "heard", "open"};
        int[] back = {0, 2, 4, 2, 1};
        int[] then = {0, 2, 3, 2, 1};
        for (int i = 0; i < vars.length; i++) {
            LieClock x = Check.court(said + "forth " + vars[i] + ";");
            x.say(0);
            x.say(1);
            x.say(2);
            Check.due("clock() by forth " + vars[i], x.clock(), 2 + then[i]);
            x = Check.court(said + "forth 1;back " + vars[i] + ";");
            x.say(0);
            x.say(1);
            x.say(2);
            Check.due("clock() by back " + vars[i], x.clock(), 4 - back[i]);
        }
        // lies are those ahead; the minute is the clock's as it is set back; it is 0 and more.
        LieClock x = Check.court("fact a yes open;witness w;word w=not a;back 3;clock 0;");
        x.say(0);
        Check.due("clock()", x.clock(), -2);
        x = Check.court("fact a yes;fact b yes;witness w;word w=not a;word w=not b;word w=a;back 2+5*lies;");
        x.say(0);
        x.say(1);
        x.say(2);
        Check.due("clock()", x.clock(), 3 - 2 - 7);
        x = Check.court("fact a yes;fact b yes;witness w;word w=not a;word w=not b;word w=a;back 100-minute/20;");
        x.say(0);
        x.say(1);
        x.say(2);
        // 3 - 100 = -97, whose minute is 1343: 100 - 67 = 33 more.
        Check.due("clock()", x.clock(), -130);
    }

    /** The minute is the rest by 1440: a day's last one, then the next day's first. */
    private static void dayEnds() {
        int[] clocks = {1438, 1439, 1440, 2878, 2879};
        int[] rests = {1439, 0, 1, 1439, 0};
        for (int i = 0; i < clocks.length; i++) {
            LieClock x = Check.court("fact a yes;witness w;word w self=a;forth minute-1400;clock " + clocks[i] + ";");
            x.say(0);
            Check.due("clock() from " + clocks[i], x.clock(), clocks[i] + 1 + Math.max(0, rests[i] - 1400));
        }
    }

    /** Ints wrap: 9999 to the sixth, less 1, in 32 bits; then held to 0 .. 120. */
    private static int held(String law, int due) {
        if (!law.contains("9999*")) return due;
        int n = 1;
        for (int i = 0; i < 6; i++) n *= 9999;
        return Math.max(0, Math.min(120, n - 1));
    }

    private static void look() {
        Check.part("promise 13");
        LieClock x = Check.court("fact a yes;fact b no open;witness v;witness w;word v=not a;word w=not a;"
            + "word w=a or b;back 2;case p 1=a;");
        Check.due("look(1)", x.look(1), -2);
        Check.due("look(2)", x.look(2), -1);
        Check.due("look(-1)", x.look(-1), -1);
        Check.due("clock()", x.clock(), 0);
        Check.due("count(10)", x.count(10), 0);
        x.say(0);
        x.say(1);
        Check.due("look(0)", x.look(0), 2);
        Check.due("clock()", x.clock(), -1);
        Check.due("share(0)", x.share(0), -2);
        Check.due("share(1)", x.share(1), -2);
        Check.due("look(0)", x.look(0), -2);
        // The minute comes ahead of the look.
        x = Check.court("fact a yes;case p 1=a;");
        Check.due("look(0)", x.look(0), 0);
        Check.due("hearing(0, 2)", x.hearing(0, 2), 2);
        Check.due("hearing(0, 3)", x.hearing(0, 3), 1);
    }

    private static void pause() {
        Check.part("promise 14");
        LieClock x = Check.court("fact a yes;case p 2879=a;case q 2=a;clock 1;");
        Check.due("pause(0)", x.pause(0), 1);
        Check.due("count(10)", x.count(10), 0);
        Check.due("pause(-1)", x.pause(-1), -1000000);
        Check.due("pause(3001)", x.pause(3001), -1000000);
        Check.due("pause(most)", x.pause(MOST), -1000000);
        Check.due("clock()", x.clock(), 1);
        Check.due("pause(2878)", x.pause(2878), 2879);
        Check.due("hearing(0, 1)", x.hearing(0, 1), 1);
        Check.due("hearing(1, 1)", x.hearing(1, 1), 1);
        Check.due("pause(3000)", x.pause(3000), 5879);
        Check.due("count(7)", x.count(7), 2);
    }

    private static void undo() {
        Check.part("promise 15");
        LieClock x = Check.court(PAIR + "case p 2=a;");
        x.say(0);
        x.say(1);
        x.look(0);
        x.write(4);
        x.hold(0);
        Check.due("undo()", x.undo(), true);
        Check.due("fact(0, 1)", x.fact(0, 1), 0);
        Check.due("clock()", x.clock(), -1);
        Check.due("undo()", x.undo(), true);
        Check.due("count(6)", x.count(6), 0);
        Check.due("count(7)", x.count(7), 0);
        Check.due("hearing(0, 2)", x.hearing(0, 2), -2);
        Check.due("share(0)", x.share(0), 0);
        Check.due("count(8)", x.count(8), 1);
        Check.due("undo()", x.undo(), true);
        Check.due("undo()", x.undo(), false);
        Check.due("clock()", x.clock(), 0);
        for (int i = 0; i < 43; i++) x.pause(1);
        Check.due("count(10)", x.count(10), 40);
        for (int i = 0; i < 40; i++) Check.due("undo()", x.undo(), true);
        Check.due("undo()", x.undo(), false);
        Check.due("clock()", x.clock(), 3);
    }

    private static void would() {
        Check.part("promise 16");
        LieClock x = Check.court(PAIR + "word w self=a;forth 9;");
        Check.due("would(2)", x.would(2), 10);
        x.say(0);
        Check.due("would(1)", x.would(1), -1);
        Check.due("would(0)", x.would(0), 2);
        Check.due("would(3)", x.would(3), -1000000);
        Check.due("would(-1)", x.would(-1), -1000000);
        Check.due("clock()", x.clock(), 1);
        Check.due("count(5)", x.count(5), 1);
        Check.due("count(10)", x.count(10), 1);
    }

    private static void ahead() {
        Check.part("promise 17");
        LieClock x = Check.court("fact a yes;witness w;word w=a;word w self=a;case p 5=a;case q 6=a;forth 3;");
        Check.due("ahead(0, 1, 0)", x.ahead(0, 1, 0), 2);
        Check.due("ahead(0, 1, 1)", x.ahead(0, 1, 1), 0);
        Check.due("ahead(1, 0, 0)", x.ahead(1, 0, 0), -2);
        Check.due("ahead(0, 0, 0)", x.ahead(0, 0, 0), -1);
        Check.due("ahead(0, 2, 0)", x.ahead(0, 2, 0), -1);
        Check.due("ahead(-1, 1, 0)", x.ahead(-1, 1, 0), -1);
        Check.due("ahead(0, 1, 2)", x.ahead(0, 1, 2), -1);
        Check.due("ahead(0, 1, -1)", x.ahead(0, 1, -1), -1);
        Check.due("ahead(1, 0, 2)", x.ahead(1, 0, 2), -1);
        Check.due("clock()", x.clock(), 0);
        // Four words are enough for the fourth minute, not for the fifth.
        x = Check.court("fact a yes;witness w;word w=not a;case p 4=a;case q 5=a;case r 9=a;");
        Check.due("ahead(0, 1, 0)", x.ahead(0, 1, 0), 4);
        Check.due("ahead(0, 1, 1)", x.ahead(0, 1, 1), 4);
        Check.due("ahead(1, 2, 0)", x.ahead(1, 2, 0), -2);
        x.pause(1);
        Check.due("ahead(0, 1, 0)", x.ahead(0, 1, 0), 3);
        // q is ahead of r from now on, though p was heard; p can't be heard again.
        x.pause(3);
        Check.due("ahead(1, 0, 0)", x.ahead(1, 0, 0), 1);
        Check.due("ahead(0, 1, 0)", x.ahead(0, 1, 0), -2);
        // Asked one behind the other, with other cases and behind other things.
        x = Check.court("fact a yes;witness w;word w=a;case p 3=a;case q 2=a;case r 4=a;");
        Check.due("ahead(0, 2, 0)", x.ahead(0, 2, 0), 3);
        Check.due("ahead(1, 2, 0)", x.ahead(1, 2, 0), 2);
        Check.due("ahead(1, 0, 0)", x.ahead(1, 0, 0), 2);
        Check.due("ahead(2, 0, 0)", x.ahead(2, 0, 0), -2);
        Check.due("ahead(2, 1, 0)", x.ahead(2, 1, 0), -2);
        Check.due("ahead(0, 1, 0)", x.ahead(0, 1, 0), -2);
        x.say(0);
        x.say(0);
        Check.due("ahead(0, 1, 0)", x.ahead(0, 1, 0), 1);
        x.undo();
        Check.due("ahead(0, 1, 0)", x.ahead(0, 1, 0), -2);
        // A lie that is caught brings the clock back to the minute.
        x = Check.court("fact a yes;witness w;word w=a;word w=not a;case p 3=a;case q 9=a;back 4;clock 3;");
        x.say(0);
        Check.due("ahead(0, 1, 0)", x.ahead(0, 1, 0), 3);
        Check.due("ahead(0, 1, 1)", x.ahead(0, 1, 1), 1);
    }

    private static void aheadAt() {
        Check.part("promise 18");
        LieClock x = Check.court("fact a yes;witness w;word w=a;word w self=a;case p 5=a;case q 6=a;forth 3;");
        // (0, 1) and (1, 0) both come to 5: the first by numbers.
        Check.due("aheadAt(0, 1, 0)", x.aheadAt(0, 1, 0), 0);
        Check.due("aheadAt(0, 1, 1)", x.aheadAt(0, 1, 1), 1);
        Check.due("aheadAt(0, 1, 2)", x.aheadAt(0, 1, 2), -1);
        Check.due("aheadAt(0, 1, -1)", x.aheadAt(0, 1, -1), -1);
        Check.due("aheadAt(1, 0, 0)", x.aheadAt(1, 0, 0), -2);
        Check.due("aheadAt(1, 0, 9)", x.aheadAt(1, 0, 9), -2);
        Check.due("aheadAt(1, 0, -1)", x.aheadAt(1, 0, -1), -1);
        Check.due("aheadAt(1, 1, 0)", x.aheadAt(1, 1, 0), -1);
        Check.due("aheadAt(2, 1, 0)", x.aheadAt(2, 1, 0), -1);
        x = Check.court("fact a yes;witness w;word w=a;word w=not a;case p 3=a;case q 9=a;back 4;clock 3;");
        x.say(0);
        aheadByHeard();
        // From 4: 5, then 6 and back to 2, then 3; set back to 3 itself, by (0, 0, 1), it would not be heard.
        int[] row = {0, 1, 0};
        for (int i = 0; i < 3; i++) Check.due("aheadAt(0, 1, " + i + ")", x.aheadAt(0, 1, i), row[i]);
    }

    /** Two ways to the same words at the same minute, by one of which r was heard: only the other one goes on to p. */
    private static void aheadByHeard() {
        LieClock x = Check.court("fact a yes;witness w;witness v;word w=not a;word w self=a;word v self=a;"
            + "case p 3=a;case q 100=a;case r 9=a;back minute;forth (said-1)*10+(1-heard)*2;clock 3;");
        int[] row = {1, 0, 2};
        Check.due("ahead(0, 1, 0)", x.ahead(0, 1, 0), 3);
        Check.due("ahead(0, 1, 1)", x.ahead(0, 1, 1), 1);
        for (int i = 0; i < 3; i++) Check.due("aheadAt(0, 1, " + i + ")", x.aheadAt(0, 1, i), row[i]);
    }

    private static void order() {
        Check.part("promise 19");
        LieClock x = Check.court("fact a yes;witness w;word w=not a;word w=a;word w self=a;forth minute;back 1;");
        Check.due("order(6, false)", x.order(6, false), 3);
        Check.due("order(6, true)", x.order(6, true), 4);
        Check.due("order(0, true)", x.order(0, true), 0);
        Check.due("order(4, true)", x.order(4, true), 2);
        Check.due("order(8, true)", x.order(8, true), -1000000);
        Check.due("order(-1, true)", x.order(-1, true), -1000000);
        Check.due("order(least, true)", x.order(LEAST, true), -1000000);
        Check.due("clock()", x.clock(), 0);
        x = Check.court("fact a yes;witness w;" + Check.many("word w=a;", 7));
        Check.due("order(63, true)", x.order(63, true), 6);
        Check.due("order(126, false)", x.order(126, false), 6);
        Check.due("order(127, true)", x.order(127, true), -1000000);
        x.pause(2);
        Check.due("order(63, true)", x.order(63, true), 8);
        x.undo();
        Check.due("order(63, true)", x.order(63, true), 6);
        x.hold(0);
        x.pause(2);
        Check.due("order(63, true)", x.order(63, true), 8);
        x.restore(0);
        Check.due("order(63, true)", x.order(63, true), 6);
    }

    private static void orderAt() {
        Check.part("promise 20");
        LieClock x = Check.court("fact a yes;witness w;word w=not a;word w=a;word w self=a;forth minute;back 1;");
        Check.due("orderAt(6, false, 0)", x.orderAt(6, false, 0), 2);
        Check.due("orderAt(6, false, 1)", x.orderAt(6, false, 1), 1);
        Check.due("orderAt(6, true, 0)", x.orderAt(6, true, 0), 1);
        Check.due("orderAt(6, true, 1)", x.orderAt(6, true, 1), 2);
        Check.due("orderAt(6, true, 2)", x.orderAt(6, true, 2), -1);
        Check.due("orderAt(6, true, -1)", x.orderAt(6, true, -1), -1);
        Check.due("orderAt(0, true, 0)", x.orderAt(0, true, 0), -1);
        Check.due("orderAt(8, true, 0)", x.orderAt(8, true, 0), -1);
        // Alike ones: the first by numbers.
        x = Check.court("fact a yes;witness w;" + Check.many("word w=a;", 7));
        for (int i = 0; i < 6; i++) Check.due("orderAt(126, true, " + i + ")", x.orderAt(126, true, i), i + 1);
        for (int i = 0; i < 6; i++) Check.due("orderAt(126, false, " + i + ")", x.orderAt(126, false, i), i + 1);
        Check.due("orderAt(127, false, 0)", x.orderAt(127, false, 0), -1);
    }

    private static void never() {
        Check.part("promise 21");
        LieClock x = Check.court("fact a yes;witness w;word w=not a;word w=a;word w self=a;forth minute;back 1;");
        Check.due("never(6, 0)", x.never(6, 0), 1);
        Check.due("never(6, 1)", x.never(6, 1), 0);
        Check.due("never(6, 3)", x.never(6, 3), 0);
        Check.due("never(6, 4)", x.never(6, 4), 1);
        Check.due("never(6, 5)", x.never(6, 5), 1);
        Check.due("never(6, least)", x.never(6, LEAST), 1);
        Check.due("never(0, 0)", x.never(0, 0), 1);
        Check.due("never(8, 0)", x.never(8, 0), -1);
        Check.due("never(-1, 0)", x.never(-1, 0), -1);
        // Set back over a minute it does not come to it; going forward again it does.
        x = Check.court("fact a yes;witness w;word w=a;word w=not a;back 10;");
        x.say(0);
        Check.due("never(2, -3)", x.never(2, -3), 1);
        Check.due("never(2, -8)", x.never(2, -8), 1);
        Check.due("never(3, -7)", x.never(3, -7), 1);
        Check.due("never(3, 2)", x.never(3, 2), 0);
        x.say(1);
        Check.due("never(1, -7)", x.never(1, -7), 0);
        x = Check.court("fact a yes;witness w;" + Check.many("word w=a;", 7));
        Check.due("never(127, 1)", x.never(127, 1), -1);
        Check.due("never(63, 6)", x.never(63, 6), 0);
        Check.due("never(63, 7)", x.never(63, 7), 1);
        // No other words than those of the set.
        x = Check.court("fact a yes;witness w;word w=a;word w self=a;forth 5;");
        Check.due("never(2, 3)", x.never(2, 3), 0);
        Check.due("never(1, 3)", x.never(1, 3), 1);
        // At its top the clock stays: it does not come to it again.
        for (int i = 0; i < 33; i++) x.pause(3000);
        x.pause(999);
        Check.due("never(1, 100000)", x.never(1, 100000), 0);
        x.pause(1);
        Check.due("never(1, 100000)", x.never(1, 100000), 1);
    }

    private static void smallest() {
        Check.part("promise 22");
        LieClock x = Check.court("fact a yes;fact b no;witness v;witness w;word v=a or b;word w=not a;word v=not b;"
            + "word w=a;word v=b;");
        // {0, 1, 2} can't stand, but {1, 3} and {2, 4} are smaller; of them 10 is less than 20.
        Check.due("smallest()", x.smallest(), 10);
        x.look(1);
        Check.due("smallest()", x.smallest(), 16);
        x.look(0);
        Check.due("smallest()", x.smallest(), 2);
        x.undo();
        x.undo();
        Check.due("smallest()", x.smallest(), 10);
        x = Check.court("fact a yes;fact b no;witness v;word v=a or b;word v=not a;word v=not b;");
        Check.due("smallest()", x.smallest(), 7);
        x = Check.court("fact a yes;witness v;word v=a;word v=a or not a;");
        Check.due("smallest()", x.smallest(), -2);
        x = Check.court("fact a yes;witness v;word v=a;word v=a and not a;");
        Check.due("smallest()", x.smallest(), 2);
    }

    private static void states() {
        Check.part("promise 23");
        LieClock x = Check.court("fact a yes;fact b no;fact c yes;witness v;word v=a or b;word v=not a;word v=c;");
        int[] due = {8, 6, 4, 2, 4, 3, 2, 1};
        for (int set = 0; set < 8; set++) Check.due("states(" + set + ")", x.states(set), due[set]);
        Check.due("states(8)", x.states(8), -1);
        Check.due("states(-1)", x.states(-1), -1);
        Check.due("states(least)", x.states(LEAST), -1);
        x.look(0);
        Check.due("states(0)", x.states(0), 4);
        Check.due("states(3)", x.states(3), 0);
        x = Check.court("fact a yes;witness v;" + Check.many("word v=a;", 16));
        Check.due("states(65535)", x.states(65535), 1);
        Check.due("states(65536)", x.states(65536), -1);
    }

    private static void looks() {
        Check.part("promise 24");
        LieClock x = Check.court("fact a yes;fact b no;fact c no;witness v;word v=a and b;word v=not a or b;"
            + "word v=a;word v=b and c;");
        Check.due("looks(0)", x.looks(0), 2);
        Check.due("looks(1)", x.looks(1), 3);
        Check.due("looks(2)", x.looks(2), -2);
        Check.due("looks(3)", x.looks(3), 2);
        Check.due("looks(4)", x.looks(4), -1);
        Check.due("looks(-1)", x.looks(-1), -1);
        x.look(1);
        Check.due("looks(0)", x.looks(0), 0);
        Check.due("looks(1)", x.looks(1), 1);
        Check.due("looks(2)", x.looks(2), -2);
    }

    private static void settled() {
        Check.part("promise 25");
        LieClock x = Check.court("fact a yes;fact b yes;fact c no;witness v;word v=a;word v=b;word v=a and c;"
            + "word v=not c or a;case p 1=a and b;case q 1=a and not a;case r 1=c;case s 1=a and not c;case t 1=b;");
        Check.due("settled(0)", x.settled(0), 3);
        Check.due("settled(1)", x.settled(1), 0);
        Check.due("settled(2)", x.settled(2), -2);
        Check.due("settled(3)", x.settled(3), -2);
        Check.due("settled(4)", x.settled(4), 2);
        Check.due("settled(5)", x.settled(5), -1);
        Check.due("settled(-1)", x.settled(-1), -1);
        x.look(2);
        Check.due("settled(2)", x.settled(2), 0);
        Check.due("settled(3)", x.settled(3), 1);
        x.look(1);
        Check.due("settled(0)", x.settled(0), 1);
        // Of alike ones the least bits; in none counts as well as in all.
        x = Check.court("fact a no;fact b no;witness v;word v=not a and b or not a;word v=not a;word v=not b;"
            + "case p 1=a;case q 1=a or b;");
        Check.due("settled(0)", x.settled(0), 1);
        Check.due("settled(1)", x.settled(1), 5);
    }

    private static void write() {
        Check.part("promise 26");
        LieClock x = Check.court(PAIR);
        Check.due("write(100001)", x.write(100001), -1);
        Check.due("write(-100001)", x.write(-100001), -1);
        Check.due("write(least)", x.write(LEAST), -1);
        int[] readings = {100000, -100000, 0, 7, 7};
        for (int i = 0; i < 5; i++) Check.due("write(" + readings[i] + ")", x.write(readings[i]), i);
        Check.due("write(7)", x.write(7), -1);
        Check.due("count(8)", x.count(8), 5);
        Check.due("undo()", x.undo(), false);
    }

    private static void burn() {
        Check.part("promise 27");
        LieClock x = Check.court(PAIR);
        Check.due("burn()", x.burn(), 0);
        x.write(1);
        Check.due("fits(1)", x.fits(1), 2);
        Check.due("burn()", x.burn(), 1);
        Check.due("fits(1)", x.fits(1), -1);
        Check.due("write(9)", x.write(9), 0);
        Check.due("fits(1)", x.fits(1), 0);
    }

    private static void fits() {
        Check.part("promise 28");
        LieClock x = Check.court(PAIR);
        // What is said, looked at and waited now is nothing to the book.
        x.say(0);
        x.look(0);
        x.pause(7);
        x.write(1);
        x.write(-1);
        x.write(0);
        x.write(1);
        long[] due = {1, 2, 2, 4, 8};
        for (int k = 0; k < 5; k++) Check.due("fits(" + k + ")", x.fits(k), due[k]);
        Check.due("fits(5)", x.fits(5), -1);
        Check.due("fits(-1)", x.fits(-1), -1);
        Check.due("fits(least)", x.fits(LEAST), -1);
        x.write(9);
        Check.due("fits(5)", x.fits(5), 0);
        x = Check.court("fact a yes;witness v;" + Check.many("word v=a;", 16));
        for (int i = 1; i <= 5; i++) x.write(i);
        Check.due("fits(5)", x.fits(5), 1048576);
        Check.due("surely(5)", x.surely(5), 0);
        Check.due("fits(4)", x.fits(4), 65536);
        x = Check.court("fact a yes;witness v;word v self=a;word v=a;word v self=a;forth said*2;");
        x.write(3);
        x.write(4);
        x.write(9);
        // First 0 or 2; then one said or 1; then the other SELF: by 1 and 2 * said, of which there are 2 or 3.
        Check.due("fits(1)", x.fits(1), 2);
        Check.due("fits(2)", x.fits(2), 4);
        Check.due("fits(3)", x.fits(3), 2);
        x.burn();
        x.write(3);
        x.write(4);
        x.write(11);
        Check.due("fits(3)", x.fits(3), 2);
        // The same words at the same minute, but r heard or not: (0, 1, 2) alone comes to 8.
        x = Check.court("fact a yes;witness w;witness v;word w=not a;word w self=a;word v self=a;case r 5=a;"
            + "back minute;forth (said-1)*10+heard*7;");
        x.write(1);
        x.write(0);
        x.write(8);
        Check.due("fits(2)", x.fits(2), 2);
        Check.due("fits(3)", x.fits(3), 1);
        Check.due("surely(3)", x.surely(3), 7);
        x.burn();
        x.write(1);
        x.write(0);
        x.write(1);
        Check.due("fits(3)", x.fits(3), 5);
        Check.due("surely(3)", x.surely(3), 3);
        x = Check.court(PAIR);
        for (int i = 1; i <= 5; i++) x.write(i);
        Check.due("fits(5)", x.fits(5), 2);
        x.burn();
        for (int i = 2; i <= 6; i++) x.write(i);
        Check.due("fits(5)", x.fits(5), 0);
    }

    private static void surely() {
        Check.part("promise 29");
        LieClock x = Check.court(PAIR + "word w=a;");
        x.write(1);
        x.write(-1);
        x.write(50);
        Check.due("surely(0)", x.surely(0), 0);
        Check.due("surely(1)", x.surely(1), 0);
        // The lie is in all of them, each true word in some only.
        Check.due("surely(2)", x.surely(2), 2);
        Check.due("surely(3)", x.surely(3), 0);
        Check.due("surely(4)", x.surely(4), -1);
        Check.due("surely(-1)", x.surely(-1), -1);
    }

    private static void liars() {
        Check.part("promise 30");
        LieClock x = Check.court("fact a yes;fact b yes;witness u;witness v;witness w;word v=a;word v=not a;"
            + "word w=b;word w=not b;word u=a;back 3;");
        Check.due("liars(0)", x.liars(0), 0);
        x.write(1);
        x.write(-1);
        x.write(0);
        x.write(-2);
        // Behind two words it may be v or w; behind four both.
        Check.due("liars(1)", x.liars(1), 0);
        Check.due("fits(2)", x.fits(2), 4);
        Check.due("liars(2)", x.liars(2), 0);
        Check.due("liars(4)", x.liars(4), 6);
        Check.due("surely(4)", x.surely(4), 15);
        Check.due("liars(5)", x.liars(5), -1);
        Check.due("liars(-1)", x.liars(-1), -1);
        x.write(77);
        Check.due("liars(5)", x.liars(5), 0);
        // Caught at once, by what is open.
        x = Check.court("fact a yes open;witness w;word w=not a;word w=a;back 3;");
        x.write(-2);
        Check.due("liars(1)", x.liars(1), 1);
        Check.due("surely(1)", x.surely(1), 1);
    }

    private static void hold() {
        Check.part("promise 31");
        LieClock x = Check.court(PAIR);
        Check.due("hold(-1)", x.hold(-1), false);
        Check.due("hold(3)", x.hold(3), false);
        Check.due("hold(2)", x.hold(2), true);
        Check.due("count(11)", x.count(11), 1);
        x.say(0);
        Check.due("count(10)", x.count(10), 1);
        Check.due("hold(0)", x.hold(0), true);
        Check.due("hold(0)", x.hold(0), true);
        Check.due("count(11)", x.count(11), 2);
        Check.due("count(10)", x.count(10), 1);
        x.restore(2);
        Check.due("clock()", x.clock(), 0);
        x.restore(0);
        Check.due("clock()", x.clock(), 1);
    }

    private static void restore() {
        Check.part("promise 32");
        LieClock x = Check.court(PAIR + "case p 1=a;");
        Check.due("restore(0)", x.restore(0), false);
        Check.due("restore(-1)", x.restore(-1), false);
        Check.due("restore(3)", x.restore(3), false);
        x.say(0);
        x.look(0);
        x.write(3);
        x.feed(0, 0, 0, 0, 0);
        x.hold(1);
        x.say(1);
        x.pause(20);
        x.write(4);
        x.feed(0, 0, 0, 0, 0);
        Check.due("restore(0)", x.restore(0), false);
        Check.due("restore(1)", x.restore(1), true);
        Check.due("clock()", x.clock(), 2);
        Check.due("word(1, 4)", x.word(1, 4), 0);
        Check.due("hearing(0, 1)", x.hearing(0, 1), 1);
        Check.due("count(4)", x.count(4), 1);
        Check.due("count(8)", x.count(8), 2);
        Check.due("count(9)", x.count(9), 20);
        Check.due("count(10)", x.count(10), 0);
        Check.due("undo()", x.undo(), false);
        x.pause(5);
        Check.due("restore(1)", x.restore(1), true);
        Check.due("clock()", x.clock(), 2);
        Check.due("faulty read", x.read(), 1);
        Check.due("count(11)", x.count(11), 1);
        // The place is the latest read()'s, whatever a slot holds.
        Check.due("place()", x.place(), 0);
        Check.due("restore(1)", x.restore(1), true);
        Check.due("place()", x.place(), 0);
        Check.due("count(9)", x.count(9), 20);
        Check.due("back(20)", x.back(20), 0);
        Check.due("empty read", x.read(), 0);
        Check.due("restore(1)", x.restore(1), false);
    }

    /** As many of all as there can be. */
    private static void full() {
        Check.part("as many as can be");
        StringBuilder b = new StringBuilder();
        for (char c = 'a'; c < 'g'; c++) b.append("fact ").append(c).append(" yes;witness w").append(c).append(';');
        for (int i = 0; i < 16; i++) b.append("word w").append((char) ('a' + i % 6)).append(i < 6 ? "=" : "=not ")
            .append((char) ('a' + i % 6)).append(';');
        for (char c = 'a'; c < 'i'; c++) b.append("case c").append(c).append(" 3=a;");
        LieClock x = Check.court(b.append("back 2;").toString());
        for (int what = 0; what < 4; what++) Check.due("count", x.count(what), new int[] {6, 6, 16, 8}[what]);
        Check.due("states(0)", x.states(0), 64);
        Check.due("states(63)", x.states(63), 1);
        Check.due("smallest()", x.smallest(), 65);
        Check.due("settled(7)", x.settled(7), 1);
        Check.due("looks(15)", x.looks(15), 8);
        Check.due("ahead(6, 7, 0)", x.ahead(6, 7, 0), -2);
        for (int i = 0; i < 16; i++) Check.due("say(" + i + ")", x.say(i), i < 6 ? 0 : 1);
        Check.due("clock()", x.clock(), 16 - 20);
        Check.due("count(6)", x.count(6), 10);
        // On the way to 6, and once more from 2 when it has been set back so far.
        Check.due("count(7)", x.count(7), 16);
        Check.due("share(5)", x.share(5), -2);
        Check.due("witness(3, 1)", x.witness(3, 1), 2);
        for (int f = 0; f < 6; f++) Check.due("look(" + f + ")", x.look(f), 0);
        Check.due("states(63)", x.states(63), 1);
        Check.due("smallest()", x.smallest(), 64);
        x.write(1);
        x.write(0);
        Check.due("fits(2)", x.fits(2), 20);
        Check.due("liars(2)", x.liars(2), 0);
    }

    private static void count() {
        Check.part("promise 33");
        LieClock x = Check.court(PAIR + "fact b no open;fact c no;witness v;word v=b;case p 1=a;");
        x.say(0);
        x.say(1);
        x.look(0);
        x.pause(1);
        x.undo();
        x.write(5);
        x.feed(0, 0, 0, 0, 0);
        x.back(3);
        x.hold(1);
        int[] due = {3, 2, 3, 1, 2, 2, 1, 1, 1, 17, 3, 1};
        for (int what = 0; what < 12; what++) Check.due("count(" + what + ")", x.count(what), due[what]);
        Check.due("count(12)", x.count(12), -1);
        Check.due("count(-1)", x.count(-1), -1);
        Check.due("count(most)", x.count(MOST), -1);
    }
}
