/** The promises 1 to 33: what each call refuses, and that nothing happens then; one method for each sentence. */
public final class CallEdgeTest {
    private static final int LEAST = Integer.MIN_VALUE;
    private static final int MOST = Integer.MAX_VALUE;
    private static final int NO_MINUTE = -1000000;
    private static final int BLANK = 0x20202020;
    /** Two facts, two witnesses, three words, three cases; see begun(). */
    private static final String TEXT = "fact a yes;fact b no;witness v;witness w;word v self=a;word w=b;word w=a and not b;"
        + "case p 3=a;case q 2=b;case r 9=a;back 2+said;forth 3+minute;clock 1;";

    public static void main(String[] args) {
        newObject();
        twentyBytes();
        highestFirst();
        noMoreThan2000();
        lastBytesGo();
        notSoMany();
        tapeIsEmptyThen();
        latestReadsFault();
        clock();
        factNoneForOthers();
        wordNoneForOthers();
        witnessNoneForOthers();
        shareNoSuchOne();
        hearingNoneForOthers();
        notHeard();
        sayNoSuchOne();
        sayAnswers();
        lookNoSuchOne();
        lookIsOpen();
        lookAnswers();
        pauseNoSuch();
        pauseZero();
        undoNone();
        undoLast40();
        undoWhatWasDone();
        undoLeavesTheRest();
        wouldNoSuchOne();
        wouldNothingHappens();
        aheadNoSuchOnes();
        aheadAtLookedAtFirst();
        orderAtNotSoMany();
        smallestNone();
        writeRange();
        writeFull();
        burns();
        holdNoSuchOne();
        holdAllButTheBook();
        restoreNoSuchOne();
        restoreStays();
        restoreNothingUndone();
        countNoneForOthers();
        counts();
        manyCalls();
        Check.end();
    }

    /** At 8: v's word said, FORTH asked; w's lie said; two cases heard; a reading, a slot, two things done. */
    private static LieClock begun() {
        LieClock x = Check.court(TEXT);
        Check.due("say(0)", x.say(0), 2);
        Check.due("say(1)", x.say(1), 0);
        Check.due("clock()", x.clock(), 8);
        x.write(7);
        x.hold(1);
        return x;
    }

    private interface Call {
        long on(LieClock x);
    }

    /** A call that is refused answers so, and what is shown stays; so do the things that can be undone. */
    private static void refused(String name, long due, Call call) {
        LieClock x = begun();
        long[] before = Check.shown(x);
        Check.due(name, call.on(x), due);
        Check.same(name, Check.shown(x), before);
        Check.due("undo() behind " + name, x.undo(), true);
        Check.due("clock() behind " + name, x.clock(), 7);
        Check.due("undo() behind " + name, x.undo(), true);
        Check.due("clock() behind " + name, x.clock(), 1);
        Check.due("undo() behind " + name, x.undo(), false);
        Check.due("restore(1) behind " + name, x.restore(1), true);
        Check.due("clock() behind " + name, x.clock(), 8);
    }

    private static long as(boolean b) {
        return b ? 1 : 0;
    }

    private static void newObject() {
        Check.part("1: Nothing is told");
        long[] shown = Check.shown(new LieClock());
        LieClock empty = new LieClock();
        Check.due("read() of nothing", empty.read(), 0);
        Check.same("an empty text", Check.shown(empty), shown);
        LieClock x = new LieClock();
        for (int what = 0; what < 12; what++) Check.due("count(" + what + ")", x.count(what), 0);
        Check.due("clock()", x.clock(), 0);
        Check.due("place()", x.place(), -1);
        Check.due("pause(1)", x.pause(1), 1);
        Check.due("hold(0)", x.hold(0), true);
        Check.due("restore(0)", x.restore(0), true);
        Check.due("write(1)", x.write(1), 0);
        Check.due("fits(1)", x.fits(1), 0);
        Check.due("liars(1)", x.liars(1), 0);
    }

    private static void twentyBytes() {
        Check.part("2: Twenty bytes .. come behind the tape: how many it has");
        LieClock x = new LieClock();
        for (int i = 1; i <= 100; i++) Check.due("feed " + i, x.feed(BLANK, BLANK, BLANK, BLANK, BLANK), 20 * i);
        Check.due("count(9)", x.count(9), 2000);
        Check.due("read()", x.read(), 0);
        // Behind an odd rest, too.
        x.feed(BLANK, BLANK, BLANK, BLANK, BLANK);
        x.back(13);
        Check.due("feed behind 7", x.feed(BLANK, BLANK, BLANK, BLANK, BLANK), 27);
    }

    private static void highestFirst() {
        Check.part("2: Twenty bytes, the highest of a first");
        // Each of the twenty places in its turn holds what is no token: the place tells which byte it is.
        for (int at = 0; at < 20; at++) {
            int[] five = {BLANK, BLANK, BLANK, BLANK, BLANK};
            five[at / 4] ^= (0x20 ^ 0xFF) << 24 - at % 4 * 8;
            LieClock x = new LieClock();
            x.feed(five[0], five[1], five[2], five[3], five[4]);
            Check.due("read() with a wrong byte at " + at, x.read(), 1);
            Check.due("place() with a wrong byte at " + at, x.place(), at);
        }
        LieClock x = new LieClock();
        x.feed('c' << 24 | 'l' << 16 | 'o' << 8 | 'c', 'k' << 24 | '1' << 16 | '2' << 8 | '3', '4' << 24 | ';' << 16 | 0x2020,
            BLANK, BLANK);
        Check.due("read()", x.read(), 0);
        Check.due("clock()", x.clock(), 1234);
        x.feed(LEAST, MOST, -1, 0, 1);
        Check.due("read()", x.read(), 1);
        Check.due("place()", x.place(), 0);
    }

    private static void noMoreThan2000() {
        Check.part("2: NONE, and nothing comes, if it would have more than 2,000");
        for (int bytes : new int[] {1981, 1990, 1999, 2000}) {
            LieClock x = Check.court("clock 5;");
            for (int i = 0; i < 100; i++) x.feed(BLANK, BLANK, BLANK, BLANK, BLANK);
            x.back(2000 - bytes);
            Check.due("feed behind " + bytes, x.feed(0, 0, 0, 0, 0), -1);
            Check.due("count(9)", x.count(9), bytes);
            Check.due("read()", x.read(), 0);
        }
        LieClock x = new LieClock();
        for (int i = 0; i < 99; i++) x.feed(BLANK, BLANK, BLANK, BLANK, BLANK);
        Check.due("feed behind 1980", x.feed(0, 0, 0, 0, 0), 2000);
        Check.due("read()", x.read(), 1);
        Check.due("place()", x.place(), 1980);
    }

    private static void lastBytesGo() {
        Check.part("3: The last n bytes of the tape go: how many it has");
        LieClock x = new LieClock();
        Check.due("back(0) of nothing", x.back(0), 0);
        Check.put(x, Check.bytes("clock 5;#"));
        Check.due("back(0)", x.back(0), 9);
        Check.due("back(1)", x.back(1), 8);
        Check.due("read()", x.read(), 0);
        Check.due("clock()", x.clock(), 5);
        Check.put(x, Check.bytes("clock 5;clock 6;"));
        Check.due("back(8)", x.back(8), 8);
        // What went is not there any more when others come.
        Check.put(x, Check.bytes("clock 77;"));
        Check.due("read()", x.read(), 0);
        Check.due("clock()", x.clock(), 77);
        Check.put(x, Check.bytes("#"));
        Check.due("back(1), all", x.back(1), 0);
        Check.due("read()", x.read(), 0);
    }

    private static void notSoMany() {
        Check.part("3: NONE, and nothing goes, if it has not so many, or n is below 0");
        LieClock x = new LieClock();
        Check.due("back(1) of nothing", x.back(1), -1);
        Check.due("back(-1) of nothing", x.back(-1), -1);
        x.feed(0, 0, 0, 0, 0);
        for (int n : new int[] {21, 22, 2000, MOST, -1, -20, LEAST}) {
            Check.due("back(" + n + ")", x.back(n), -1);
            Check.due("count(9)", x.count(9), 20);
        }
        Check.due("back(20)", x.back(20), 0);
        for (int n : new int[] {-1, LEAST, MOST, 1}) refused("back(" + n + ")", -1, y -> y.back(n));
    }

    private static void tapeIsEmptyThen() {
        Check.part("4: The tape, which is empty then, is read");
        LieClock x = new LieClock();
        Check.put(x, Check.bytes("clock 5;"));
        Check.due("read()", x.read(), 0);
        Check.due("count(9)", x.count(9), 0);
        Check.due("back(1)", x.back(1), -1);
        Check.put(x, Check.bytes("clock"));
        Check.due("read()", x.read(), 1);
        Check.due("count(9)", x.count(9), 0);
        // A faulty text's begin does not stand ahead of the next one.
        Check.put(x, Check.bytes("clock 7;"));
        Check.due("read()", x.read(), 0);
        Check.due("clock()", x.clock(), 7);
    }

    private static void latestReadsFault() {
        Check.part("5: The byte of the latest read()'s FAULT; NONE without");
        LieClock x = new LieClock();
        Check.due("place() ahead of all", x.place(), -1);
        Check.read(x, "clock 5;x");
        Check.due("place()", x.place(), 8);
        Check.put(x, Check.bytes("clock"));
        x.pause(5);
        x.undo();
        x.hold(0);
        Check.due("place() till the next", x.place(), 8);
        x.read();
        Check.due("place()", x.place(), 5);
        x.restore(0);
        Check.due("place()", x.place(), 5);
        x.read();
        Check.due("place()", x.place(), 5);
        Check.read(x, "#");
        Check.due("place()", x.place(), 0);
        x.read();
        Check.due("place() without", x.place(), -1);
        Check.read(x, "clock 2880;");
        Check.due("place()", x.place(), 6);
        Check.read(x, "clock 2879;");
        Check.due("place() without", x.place(), -1);
    }

    private static void clock() {
        Check.part("6: THE CLOCK");
        LieClock x = Check.court("clock 2879;");
        Check.due("clock()", x.clock(), 2879);
        x.pause(3000);
        Check.due("clock()", x.clock(), 5879);
        x.undo();
        Check.due("clock()", x.clock(), 2879);
        x.read();
        Check.due("clock()", x.clock(), 0);
    }

    private static void factNoneForOthers() {
        Check.part("7: NONE for others");
        LieClock x = Check.court("fact a yes;fact b no open;");
        int[][] rows = {{0, 0, 1}, {0, 1, 0}, {1, 0, 0}, {1, 1, 1}};
        for (int[] r : rows) Check.due("fact(" + r[0] + ", " + r[1] + ")", x.fact(r[0], r[1]), r[2]);
        for (int what : new int[] {0, 1}) {
            for (int f : new int[] {-1, 2, 6, LEAST, MOST}) Check.due("fact(" + f + ", " + what + ")", x.fact(f, what), -1);
        }
        for (int what : new int[] {-1, 2, 3, LEAST, MOST}) {
            for (int f : new int[] {-1, 0, 1, 2}) Check.due("fact(" + f + ", " + what + ")", x.fact(f, what), -1);
        }
        x = Check.court("fact a yes;fact b yes;fact c yes;fact d yes;fact e yes;fact f no open;");
        Check.due("fact(5, 0)", x.fact(5, 0), 0);
        Check.due("fact(5, 1)", x.fact(5, 1), 1);
        Check.due("fact(6, 0)", x.fact(6, 0), -1);
    }

    private static void wordNoneForOthers() {
        Check.part("8: NONE for others");
        LieClock x = begun();
        int[][] due = {{0, 1, 1, 1, 0, 2}, {1, 0, 0, 1, 0, 2}, {1, 0, 1, 0, 0, 1}};
        for (int w = 0; w < 3; w++) {
            for (int what = 0; what < 6; what++) Check.due("word(" + w + ", " + what + ")", x.word(w, what), due[w][what]);
            for (int what : new int[] {-1, 6, 7, LEAST, MOST}) Check.due("word(" + w + ", " + what + ")", x.word(w, what), -1);
        }
        for (int w : new int[] {-1, 3, 16, LEAST, MOST}) {
            for (int what = 0; what < 6; what++) Check.due("word(" + w + ", " + what + ")", x.word(w, what), -1);
        }
        x.look(1);
        Check.due("word(1, 4)", x.word(1, 4), 1);
        Check.due("word(1, 3)", x.word(1, 3), 1);
        // Of all STATES, not of those that may be.
        Check.due("word(1, 5), b open", x.word(1, 5), 2);
        x = Check.court("witness w;fact a yes;" + Check.many("word w=a;", 15) + "word w self=not a;");
        Check.due("word(15, 1)", x.word(15, 1), 1);
        Check.due("word(15, 2)", x.word(15, 2), 0);
        Check.due("word(16, 0)", x.word(16, 0), -1);
    }

    private static void witnessNoneForOthers() {
        Check.part("9: NONE for others");
        LieClock x = begun();
        x.look(1);
        int[][] due = {{1, 0, 1, 1}, {1, 1, 2, 1}};
        for (int i = 0; i < 2; i++) {
            for (int what = 0; what < 4; what++) Check.due("witness(" + i + ", " + what + ")", x.witness(i, what), due[i][what]);
            for (int what : new int[] {-1, 4, LEAST, MOST}) Check.due("witness(" + i + ", " + what + ")", x.witness(i, what), -1);
        }
        for (int i : new int[] {-1, 2, 6, LEAST, MOST}) {
            for (int what = 0; what < 4; what++) Check.due("witness(" + i + ", " + what + ")", x.witness(i, what), -1);
        }
    }

    private static void shareNoSuchOne() {
        Check.part("10: -1000000: no such one");
        LieClock x = begun();
        Check.due("share(0)", x.share(0), 5);
        Check.due("share(1)", x.share(1), 0);
        for (int i : new int[] {-1, 2, 6, LEAST, MOST}) Check.due("share(" + i + ")", x.share(i), NO_MINUTE);
    }

    private static void hearingNoneForOthers() {
        Check.part("11: NONE for others");
        LieClock x = begun();
        // q was heard at 2 with nothing said, p at 3, on the way of FORTH, with a said; now b is said, too.
        int[][] due = {{3, 1, 1, 1}, {2, 1, 2, 1}, {9, 0, -2, 1}};
        for (int c = 0; c < 3; c++) {
            for (int what = 0; what < 4; what++) Check.due("hearing(" + c + ", " + what + ")", x.hearing(c, what), due[c][what]);
            for (int what : new int[] {-1, 4, LEAST, MOST}) Check.due("hearing(" + c + ", " + what + ")", x.hearing(c, what), -1);
        }
        for (int c : new int[] {-1, 3, 8, LEAST, MOST}) {
            for (int what = 0; what < 4; what++) Check.due("hearing(" + c + ", " + what + ")", x.hearing(c, what), -1);
        }
    }

    private static void notHeard() {
        Check.part("11: its last VERDICT (-2: not HEARD)");
        LieClock x = Check.court("fact a yes;case p 1=a;");
        Check.due("hearing(0, 2)", x.hearing(0, 2), -2);
        Check.due("hearing(0, 3)", x.hearing(0, 3), 2);
        x.pause(1);
        Check.due("hearing(0, 2)", x.hearing(0, 2), 2);
        x.undo();
        Check.due("hearing(0, 2) undone", x.hearing(0, 2), -2);
        x.hold(0);
        x.pause(1);
        x.restore(0);
        Check.due("hearing(0, 2) restored", x.hearing(0, 2), -2);
    }

    private static void sayNoSuchOne() {
        Check.part("12: NONE, and nothing happens: no such one");
        for (int w : new int[] {-1, 3, 16, 31, 32, LEAST, MOST}) refused("say(" + w + ")", -1, x -> x.say(w));
        Check.due("say(0) of no words", new LieClock().say(0), -1);
    }

    private static void sayAnswers() {
        Check.part("12: 0; 1 if some WORD is CAUGHT by it; 2 if FORTH was asked by it, whatever that was (and none is CAUGHT)");
        LieClock x = Check.court("fact a yes;witness w;word w self=a;word w=a;word w self=not a;word w self=a;forth 0-5;back 0;");
        Check.due("say(0), FORTH is 0", x.say(0), 2);
        Check.due("clock()", x.clock(), 1);
        Check.due("say(0) again", x.say(0), 0);
        Check.due("say(1)", x.say(1), 0);
        // BACK is 0, but it is caught.
        Check.due("say(2)", x.say(2), 1);
        Check.due("clock()", x.clock(), 4);
        Check.due("say(2) again", x.say(2), 0);
        Check.due("say(3)", x.say(3), 2);
        x = Check.court("fact a yes;witness w;word w=not a;word w self=a;forth 9;back 1;");
        x.say(0);
        Check.due("say(1), both", x.say(1), 1);
        x = Check.court("fact a yes;witness w;word w self=a;forth 1/0;");
        Check.due("say(0), by an E that divides by 0", x.say(0), 2);
    }

    private static void lookNoSuchOne() {
        Check.part("13: NONE: no such one");
        for (int f : new int[] {-1, 2, 6, 31, 32, LEAST, MOST}) refused("look(" + f + ")", -1, x -> x.look(f));
        Check.due("look(0) of no facts", new LieClock().look(0), -1);
    }

    private static void lookIsOpen() {
        Check.part("13: -2, and nothing happens: it is OPEN");
        LieClock x = Check.court(TEXT + "fact c yes open;");
        Check.due("look(2)", x.look(2), -2);
        Check.due("count(10)", x.count(10), 0);
        Check.due("clock()", x.clock(), 1);
        Check.due("look(0)", x.look(0), 0);
        long[] before = Check.shown(x);
        Check.due("look(0) again", x.look(0), -2);
        Check.same("look(0) again", Check.shown(x), before);
        Check.due("clock()", x.clock(), 2);
        Check.due("count(10)", x.count(10), 1);
        x.undo();
        Check.due("look(0) undone", x.look(0), 0);
    }

    private static void lookAnswers() {
        Check.part("13: LOOK: how many WORDS are CAUGHT by it");
        LieClock x = Check.court("fact a yes;fact b yes;witness v;witness w;" + Check.many("word v=not a;word w=not a;", 8) + "back 1;");
        for (int w = 0; w < 16; w++) x.say(w);
        Check.due("look(1)", x.look(1), 0);
        Check.due("look(0)", x.look(0), 16);
        Check.due("clock()", x.clock(), 2);
        x.undo();
        x.undo();
        x.undo();
        Check.due("look(0), one not said", x.look(0), 15);
    }

    private static void pauseNoSuch() {
        Check.part("14: -1000000, and nothing happens: no such n");
        for (int n : new int[] {-1, 3001, 100000, LEAST, MOST}) refused("pause(" + n + ")", NO_MINUTE, x -> x.pause(n));
        LieClock x = Check.court(TEXT);
        Check.due("pause(3000)", x.pause(3000), 3001);
        Check.due("pause(1)", x.pause(1), 3002);
        Check.due("count(10)", x.count(10), 2);
    }

    private static void pauseZero() {
        Check.part("14: 0 is no thing done");
        refused("pause(0)", 8, x -> x.pause(0));
        LieClock x = Check.court("clock 3;");
        Check.due("pause(0)", x.pause(0), 3);
        Check.due("count(10)", x.count(10), 0);
        Check.due("undo()", x.undo(), false);
        // At the top a pause changes nothing, but it is a thing done.
        for (int i = 0; i < 34; i++) x.pause(3000);
        Check.due("count(10)", x.count(10), 34);
        Check.due("pause(1)", x.pause(1), 100000);
        Check.due("count(10)", x.count(10), 35);
    }

    private static void undoNone() {
        Check.part("15: false: there is none");
        LieClock x = Check.court(TEXT);
        long[] before = Check.shown(x);
        Check.due("undo()", x.undo(), false);
        Check.same("undo()", Check.shown(x), before);
        x.say(0);
        Check.due("undo()", x.undo(), true);
        Check.due("undo()", x.undo(), false);
        Check.same("all undone", Check.shown(x), before);
        // What was undone is not done again.
        Check.due("undo()", x.undo(), false);
    }

    private static void undoLast40() {
        Check.part("15: (the last 40 can be)");
        for (int done : new int[] {39, 40, 41, 42, 80, 81, 100}) {
            LieClock x = new LieClock();
            for (int i = 0; i < done; i++) x.pause(i + 1);
            int can = Math.min(40, done);
            Check.due("count(10) of " + done, x.count(10), can);
            for (int i = 0; i < can; i++) {
                Check.due("undo()", x.undo(), true);
                int left = done - 1 - i;
                Check.due("clock() of " + left, x.clock(), left * (left + 1) / 2);
            }
            Check.due("undo() of all", x.undo(), false);
            Check.due("count(10)", x.count(10), 0);
        }
        // Some undone, others done in their place.
        LieClock x = new LieClock();
        for (int i = 0; i < 45; i++) x.pause(1);
        for (int i = 0; i < 10; i++) x.undo();
        Check.due("count(10)", x.count(10), 30);
        for (int i = 0; i < 15; i++) x.pause(100);
        Check.due("count(10)", x.count(10), 40);
        Check.due("clock()", x.clock(), 1535);
        for (int i = 0; i < 40; i++) Check.due("undo()", x.undo(), true);
        Check.due("undo()", x.undo(), false);
        Check.due("clock()", x.clock(), 10);
    }

    private static void undoWhatWasDone() {
        Check.part("15: The last thing done (say, look, pause) is undone");
        LieClock x = begun();
        long[] first = Check.shown(x);
        x.look(1);
        Check.due("count(6)", x.count(6), 1);
        Check.due("undo() of look", x.undo(), true);
        Check.same("undo() of look", Check.shown(x), first);
        x = begun();
        x.pause(3000);
        Check.due("undo() of pause", x.undo(), true);
        Check.same("undo() of pause", Check.shown(x), first);
        x = begun();
        x.say(2);
        Check.due("count(6)", x.count(6), 1);
        Check.due("undo() of say", x.undo(), true);
        Check.same("undo() of say", Check.shown(x), first);
        // write, burn, hold, feed, back and a faulty read are no things done.
        x = new LieClock();
        x.write(1);
        x.burn();
        x.hold(0);
        x.feed(0, 0, 0, 0, 0);
        x.back(3);
        x.read();
        Check.due("count(10)", x.count(10), 0);
        Check.due("undo()", x.undo(), false);
    }

    private static void undoLeavesTheRest() {
        Check.part("15: undone is the thing done, and nothing else");
        LieClock x = Check.court("clock 1;");
        x.pause(5);
        x.write(7);
        x.hold(2);
        x.feed(BLANK, BLANK, BLANK, BLANK, BLANK);
        Check.due("undo()", x.undo(), true);
        Check.due("count(8)", x.count(8), 1);
        Check.due("count(9)", x.count(9), 20);
        Check.due("count(11)", x.count(11), 1);
        x.restore(2);
        Check.due("clock()", x.clock(), 6);
        Check.due("count(9)", x.count(9), 0);
    }

    private static void wouldNoSuchOne() {
        Check.part("16: -1000000: no such one");
        for (int w : new int[] {-1, 3, 16, 32, LEAST, MOST}) refused("would(" + w + ")", NO_MINUTE, x -> x.would(w));
        Check.due("would(0) of no words", new LieClock().would(0), NO_MINUTE);
    }

    private static void wouldNothingHappens() {
        Check.part("16: What a WORD would do (nothing happens): THE CLOCK behind it");
        // Said already; said already; a word more of w by which his lie is caught: 9 - 4.
        int[] due = {9, 9, 5};
        for (int w = 0; w < 3; w++) {
            int word = w;
            refused("would(" + w + ")", due[w], x -> x.would(word));
        }
        LieClock x = Check.court(TEXT);
        // 2, and 3 + 2 more; a minute; a minute.
        int[] then = {7, 2, 2};
        for (int w = 0; w < 3; w++) Check.due("would(" + w + ")", x.would(w), then[w]);
        Check.due("count(7)", x.count(7), 0);
    }

    private static void aheadNoSuchOnes() {
        Check.part("17: NONE: no such ones, one and the same");
        int[][] none = {{-1, 0}, {0, -1}, {3, 0}, {0, 3}, {8, 9}, {LEAST, 0}, {0, LEAST}, {MOST, 0}, {0, MOST}, {0, 0}, {1, 1},
            {2, 2}, {-1, -1}, {3, 3}};
        LieClock x = begun();
        for (int[] ab : none) {
            for (int what : new int[] {0, 1, 2, -1}) {
                Check.due("ahead(" + ab[0] + ", " + ab[1] + ", " + what + ")", x.ahead(ab[0], ab[1], what), -1);
            }
            for (int i : new int[] {0, 1, -1, LEAST, MOST}) {
                Check.due("aheadAt(" + ab[0] + ", " + ab[1] + ", " + i + ")", x.aheadAt(ab[0], ab[1], i), -1);
            }
        }
        Check.due("ahead(0, 1, 0) of no cases", new LieClock().ahead(0, 1, 0), -1);
        // r at 9 is a word away, p was at 3.
        x = begun();
        Check.due("ahead(2, 0, 0)", x.ahead(2, 0, 0), 1);
        Check.due("ahead(2, 0, 1)", x.ahead(2, 0, 1), 0);
        for (int what : new int[] {-1, 2, LEAST, MOST}) Check.due("ahead(2, 0, " + what + ")", x.ahead(2, 0, what), -1);
        Check.due("ahead(0, 2, 0)", x.ahead(0, 2, 0), -2);
        Check.due("ahead(0, 2, 1)", x.ahead(0, 2, 1), -2);
    }

    private static void aheadAtLookedAtFirst() {
        Check.part("18: NONE (looked at first): as there, i below 0; -2 likewise; NONE: not so many");
        LieClock x = begun();
        Check.due("aheadAt(2, 0, 0)", x.aheadAt(2, 0, 0), 0);
        for (int i : new int[] {1, 2, 4, MOST, -1, LEAST}) Check.due("aheadAt(2, 0, " + i + ")", x.aheadAt(2, 0, i), -1);
        for (int i : new int[] {0, 1, 3, 4, 5, MOST}) Check.due("aheadAt(0, 2, " + i + ")", x.aheadAt(0, 2, i), -2);
        for (int i : new int[] {-1, -2, LEAST}) Check.due("aheadAt(0, 2, " + i + ")", x.aheadAt(0, 2, i), -1);
    }

    private static void orderAtNotSoMany() {
        Check.part("20: NONE: no such ones, not so many");
        LieClock x = begun();
        for (boolean late : new boolean[] {false, true}) {
            for (int i : new int[] {-1, 3, 6, 7, LEAST, MOST}) Check.due("orderAt(7, .., " + i + ")", x.orderAt(7, late, i), -1);
            for (int i : new int[] {0, 1, -1}) {
                Check.due("orderAt(8, .., " + i + ")", x.orderAt(8, late, i), -1);
                Check.due("orderAt(-1, .., " + i + ")", x.orderAt(-1, late, i), -1);
                Check.due("orderAt(0, .., " + i + ")", x.orderAt(0, late, i), -1);
            }
            Check.due("orderAt(4, .., 0)", x.orderAt(4, late, 0), 2);
            Check.due("orderAt(4, .., 1)", x.orderAt(4, late, 1), -1);
        }
    }

    private static void smallestNone() {
        Check.part("22: -2: there is none");
        Check.due("smallest()", new LieClock().smallest(), -2);
        Check.due("smallest()", Check.court("fact a yes;witness w;word w=not a;").smallest(), -2);
        Check.due("smallest()", Check.court("fact a yes open;witness w;word w=not a;").smallest(), 1);
    }

    private static void writeRange() {
        Check.part("26: A reading (-100000 .. 100000) .. no such one");
        LieClock x = Check.court(TEXT);
        Check.due("write(-100000)", x.write(-100000), 0);
        Check.due("write(100000)", x.write(100000), 1);
        Check.due("write(0)", x.write(0), 2);
        for (int reading : new int[] {-100001, 100001, LEAST, MOST}) {
            Check.due("write(" + reading + ")", x.write(reading), -1);
            Check.due("count(8)", x.count(8), 3);
            refused("write(" + reading + ")", -1, y -> y.write(reading));
        }
    }

    private static void writeFull() {
        Check.part("26: its number; NONE, and nothing happens: 5 are there");
        LieClock x = Check.court(TEXT);
        for (int i = 0; i < 5; i++) Check.due("write(2)", x.write(2), i);
        long[] before = Check.shown(x);
        for (int reading : new int[] {2, 7, 100001}) {
            Check.due("write(" + reading + ")", x.write(reading), -1);
            Check.due("count(8)", x.count(8), 5);
        }
        Check.same("a 6th reading", Check.shown(x), before);
        Check.due("undo()", x.undo(), false);
    }

    private static void burns() {
        Check.part("27: All readings go: how many there were");
        LieClock x = Check.court(TEXT);
        Check.due("burn() of none", x.burn(), 0);
        for (int n = 1; n <= 5; n++) {
            for (int i = 0; i < n; i++) Check.due("write(7)", x.write(7), i);
            Check.due("fits(1)", x.fits(1), 1);
            Check.due("burn()", x.burn(), n);
            Check.due("count(8)", x.count(8), 0);
            Check.due("fits(0)", x.fits(0), 1);
            Check.due("fits(1)", x.fits(1), -1);
            Check.due("burn() again", x.burn(), 0);
        }
        x.write(2);
        // Said first: w's words; v's would come to 7.
        Check.due("fits(1)", x.fits(1), 2);
    }

    private static void holdNoSuchOne() {
        Check.part("31: false: no such one");
        for (int slot : new int[] {-1, 3, LEAST, MOST}) refused("hold(" + slot + ")", 0, x -> as(x.hold(slot)));
        LieClock x = new LieClock();
        for (int slot = 0; slot < 3; slot++) {
            Check.due("hold(" + slot + ")", x.hold(slot), true);
            Check.due("count(11)", x.count(11), slot + 1);
        }
        Check.due("hold(2) again", x.hold(2), true);
        Check.due("count(11)", x.count(11), 3);
    }

    private static void holdAllButTheBook() {
        Check.part("31: All but THE BOOK is held in a SLOT");
        LieClock x = begun();
        x.feed(BLANK, BLANK, BLANK, BLANK, BLANK);
        x.hold(0);
        long[] then = Check.shown(x);
        x.say(2);
        x.look(0);
        x.look(1);
        x.pause(99);
        x.feed(BLANK, BLANK, BLANK, BLANK, BLANK);
        x.write(8);
        x.undo();
        Check.due("restore(0)", x.restore(0), true);
        long[] now = Check.shown(x);
        Check.due("count(8), the book goes on", x.count(8), 2);
        Check.due("count(9)", x.count(9), 20);
        // Only the book's and what can be undone are others: count(8), count(10), and what fits by k = 2.
        now[2 + 8] = then[2 + 8];
        now[2 + 10] = then[2 + 10];
        int perRow = (then.length - 18) / 3;
        for (int i = 1; i <= 3; i++) now[14 + 3 * perRow - i] = then[14 + 3 * perRow - i];
        Check.same("restore(0)", now, then);
        Check.due("burn()", x.burn(), 2);
        x.restore(0);
        Check.due("count(8), burnt", x.count(8), 0);
        // The tape, byte by byte: none of what came behind.
        x = new LieClock();
        Check.put(x, Check.bytes("clock 5;"));
        x.hold(0);
        x.back(8);
        Check.put(x, Check.bytes("clock 66;#"));
        x.hold(1);
        x.restore(0);
        Check.due("count(9)", x.count(9), 8);
        Check.put(x, Check.bytes("back 1;"));
        x.restore(1);
        Check.due("count(9)", x.count(9), 10);
        x.restore(0);
        Check.due("read()", x.read(), 0);
        Check.due("clock()", x.clock(), 5);
    }

    private static void restoreNoSuchOne() {
        Check.part("32: false, and nothing happens: no such one, nothing is held");
        for (int slot : new int[] {-1, 3, LEAST, MOST, 0, 2}) refused("restore(" + slot + ")", 0, x -> as(x.restore(slot)));
        LieClock x = new LieClock();
        for (int slot = -1; slot < 4; slot++) Check.due("restore(" + slot + ")", x.restore(slot), false);
    }

    private static void restoreStays() {
        Check.part("32: It goes on from what a SLOT holds (that stays there)");
        LieClock x = Check.court("clock 1;");
        x.hold(0);
        x.pause(10);
        x.hold(1);
        x.pause(10);
        x.hold(2);
        x.pause(1000);
        int[] due = {1, 11, 21};
        for (int round = 0; round < 2; round++) {
            for (int slot = 0; slot < 3; slot++) {
                Check.due("restore(" + slot + ")", x.restore(slot), true);
                Check.due("clock()", x.clock(), due[slot]);
                x.pause(500);
                Check.due("count(11)", x.count(11), 3);
            }
        }
        // Held anew it is another.
        x.hold(0);
        x.restore(1);
        x.restore(0);
        Check.due("clock()", x.clock(), 521);
    }

    private static void restoreNothingUndone() {
        Check.part("32: (.. nothing can be undone then)");
        LieClock x = Check.court("clock 1;");
        x.pause(1);
        x.hold(0);
        x.pause(1);
        Check.due("count(10)", x.count(10), 2);
        x.restore(0);
        Check.due("count(10)", x.count(10), 0);
        Check.due("undo()", x.undo(), false);
        Check.due("clock()", x.clock(), 2);
        x.pause(5);
        Check.due("undo()", x.undo(), true);
        Check.due("undo()", x.undo(), false);
        Check.due("clock()", x.clock(), 2);
        // hold itself leaves what can be undone.
        x.pause(5);
        x.hold(1);
        Check.due("undo()", x.undo(), true);
    }

    private static void countNoneForOthers() {
        Check.part("33: NONE for others");
        LieClock x = begun();
        for (int what : new int[] {-1, 12, 13, LEAST, MOST}) Check.due("count(" + what + ")", x.count(what), -1);
    }

    private static void counts() {
        Check.part("33: 0 FACTS .. 11 SLOTS that hold something");
        LieClock x = begun();
        x.look(1);
        x.feed(0, 0, 0, 0, 0);
        x.back(7);
        int[] due = {2, 2, 3, 3, 1, 2, 1, 3, 1, 13, 3, 1};
        for (int what = 0; what < 12; what++) Check.due("count(" + what + ")", x.count(what), due[what]);
    }

    private static void manyCalls() {
        Check.part("An object is used for at most 512 calls");
        LieClock x = Check.court("fact a yes;witness w;word w=a;word w self=a;case p 1=a;case q 2=a;back 1;forth 120;");
        int lately = 0;
        for (int i = 0; i < 600; i++) {
            lately = x.say(i % 2);
            if (i % 50 == 0) Check.due("fits(0)", x.fits(0), 1);
        }
        Check.due("say(1)", lately, 0);
        Check.due("clock()", x.clock(), 720);
        Check.due("count(10)", x.count(10), 40);
    }
}
