/** The document's parts III and IV: each sentence that names an edge, one method for each; the sentence is its part. */
public final class SearchEdgeTest {
    private static final String ONE = "fact a yes;witness w;";
    private static final String SIX = "fact a yes;fact b yes;fact c yes;fact d yes;fact e yes;fact f yes;witness w;";
    private static final String ALL_SIX = "a and b and c and d and e and f";

    public static void main(String[] args) {
        nothingHappens();
        upToFour();
        asFarAsCanBe();
        behindTheClock();
        anyOfThem();
        fewestWords();
        andCaseBNot();
        fromNow();
        firstByNumbers();
        liesInIt();
        noWordsAtAll();
        atMostSix();
        eachSaidOnce();
        emptyOrder();
        earliestAndLatest();
        alikeOrders();
        neverComes();
        neverByForthAndBack();
        neverByThemAlone();
        neverAtTheTop();
        smallest();
        smallestAlike();
        asFactsAreOpenNow();
        statesOfASet();
        fewestLooks();
        factsMore();
        looksAlike();
        settledByTrueWords();
        settledInNone();
        settledAlike();
        oneBehindTheOther();
        fiveReadings();
        fromTheBegin();
        oneWordMore();
        rows();
        firstReadings();
        surelySaid();
        liars();
        nothingFits();
        Check.end();
    }

    private static void ahead(LieClock x, int a, int b, int[] row, int lies) {
        String call = "(" + a + ", " + b;
        Check.due("ahead" + call + ", 0)", x.ahead(a, b, 0), row.length);
        Check.due("ahead" + call + ", 1)", x.ahead(a, b, 1), lies);
        for (int i = 0; i < row.length; i++) Check.due("aheadAt" + call + ", " + i + ")", x.aheadAt(a, b, i), row[i]);
        Check.due("aheadAt" + call + ", " + row.length + ")", x.aheadAt(a, b, row.length), -1);
    }

    private static void notAhead(LieClock x, int a, int b) {
        String call = "(" + a + ", " + b;
        Check.due("ahead" + call + ", 0)", x.ahead(a, b, 0), -2);
        Check.due("ahead" + call + ", 1)", x.ahead(a, b, 1), -2);
        for (int i = 0; i < 6; i++) Check.due("aheadAt" + call + ", " + i + ")", x.aheadAt(a, b, i), -2);
    }

    private static void order(LieClock x, int set, boolean late, int clock, int[] row) {
        String call = "(" + set + ", " + late;
        Check.due("order" + call + ")", x.order(set, late), clock);
        for (int i = 0; i < row.length; i++) Check.due("orderAt" + call + ", " + i + ")", x.orderAt(set, late, i), row[i]);
        Check.due("orderAt" + call + ", " + row.length + ")", x.orderAt(set, late, row.length), -1);
    }

    private static void nothingHappens() {
        Check.part("What would be from now on (nothing happens)");
        LieClock x = Check.court("fact a yes;fact b no;witness v;witness w;word v self=a;word w=b;word w=a and not b;"
            + "case p 5=a;case q 2=b;case r 9=a;back 2+said;forth 3+minute;clock 1;");
        x.say(1);
        x.write(2);
        x.hold(2);
        long[] before = Check.shown(x);
        x.would(2);
        x.ahead(0, 1, 0);
        x.ahead(2, 1, 1);
        x.aheadAt(1, 0, 0);
        x.order(7, true);
        x.order(7, false);
        x.orderAt(7, true, 2);
        x.never(7, 2);
        x.smallest();
        x.states(7);
        x.looks(1);
        x.settled(0);
        x.fits(1);
        x.surely(1);
        x.liars(1);
        Check.same("all searches", Check.shown(x), before);
        Check.due("undo()", x.undo(), true);
        Check.due("undo()", x.undo(), false);
    }

    private static void upToFour() {
        Check.part("AHEAD: the fewest WORDS to be SAID (up to 4)");
        for (int due = 1; due <= 6; due++) {
            LieClock x = Check.court(ONE + "word w=a;case p " + due + "=a;case q 100=a;");
            if (due <= 4) {
                ahead(x, 0, 1, new int[due], 0);
            } else {
                notAhead(x, 0, 1);
            }
        }
        // With FORTH: five minutes by two words, 4 + 121 by all of four, one more not.
        LieClock x = Check.court(ONE + "word w=a;word w self=a;case p 124=a;case q 125=a;case r 2000=a;forth 999;");
        ahead(x, 0, 2, new int[] {0, 0, 0, 1}, 0);
        notAhead(x, 1, 2);
    }

    private static void asFarAsCanBe() {
        Check.part("AHEAD: up to 4; BACK, FORTH: .. held to 0 .. 120");
        String four = ONE + "word w self=a;word w self=a;word w self=a;word w self=a;case q 2879=a;forth 120;case p ";
        int[][] farthest = {{0}, {0, 1}, {0, 1, 2}, {0, 1, 2, 3}};
        int[][] oneMore = {{0, 0}, {0, 0, 1}, {0, 0, 1, 2}};
        for (int n = 1; n <= 4; n++) {
            ahead(Check.court(four + 121 * n + "=a;"), 1, 0, farthest[n - 1], 0);
            LieClock x = Check.court(four + (121 * n + 1) + "=a;");
            if (n < 4) {
                ahead(x, 1, 0, oneMore[n - 1], 0);
            } else {
                notAhead(x, 1, 0);
            }
        }
    }

    private static void behindTheClock() {
        Check.part("AHEAD: up to 4; Set back (THE CLOCK) does not stop anywhere");
        String one = ONE + "word w=a;word w=a and not a;case p 50=a;case q 2879=a;clock 50;back ";
        int[][] rows = {{1, 0}, {0, 1, 0}, {0, 0, 1, 0}};
        for (int back = 2; back <= 4; back++) ahead(Check.court(one + back + ";"), 0, 1, rows[back - 2], 1);
        // 51 less 1 is 50, but not by going forward; 54 less 5 is 49, and no word is left to come to 50.
        notAhead(Check.court(one + "1;"), 0, 1);
        notAhead(Check.court(one + "5;"), 0, 1);
    }

    private static void anyOfThem() {
        Check.part("AHEAD: (.. each any of them)");
        LieClock x = Check.court(ONE + "word w=a;word w=not a;word w self=a;case p 9=a;case q 100=a;back 3;forth 2;clock 5;");
        x.say(0);
        x.say(2);
        x.say(1);
        Check.due("clock()", x.clock(), 7);
        // All are said, one is caught: each only lets a minute pass.
        ahead(x, 0, 1, new int[] {0, 0}, 0);
        x = Check.court(ONE + "word w=not a;word w=a;case p 3=a;case q 100=a;back 2;");
        // The first by numbers says the lie three times.
        ahead(x, 0, 1, new int[] {0, 0, 0}, 3);
    }

    private static void fewestWords() {
        Check.part("AHEAD: the fewest WORDS");
        LieClock x = Check.court(ONE + "word w=a;word w=a;word w=a;word w self=a;case p 4=a;case q 100=a;forth 3;");
        ahead(x, 0, 1, new int[] {3}, 0);
        // With one minute more two words.
        x = Check.court(ONE + "word w=a;word w=a;word w=a;word w self=a;case p 5=a;case q 100=a;forth 3;");
        ahead(x, 0, 1, new int[] {0, 3}, 0);
    }

    private static void andCaseBNot() {
        Check.part("AHEAD: .. CASE a has been HEARD, once or more often, and CASE b not");
        LieClock x = Check.court(ONE + "word w=a;case p 2=a;case q 2=a;case r 1=a;case s 3=a;");
        notAhead(x, 0, 1);
        notAhead(x, 1, 0);
        notAhead(x, 0, 2);
        ahead(x, 0, 3, new int[] {0, 0}, 0);
        ahead(x, 2, 0, new int[] {0}, 0);
        notAhead(x, 3, 0);
        // One word would go over both; two words stop between them.
        x = Check.court(ONE + "word w=a;word w self=a;case p 2=a;case q 5=a;forth 9;");
        ahead(x, 0, 1, new int[] {0, 0}, 0);
        x = Check.court(ONE + "word w self=a;case p 2=a;case q 5=a;forth 9;");
        notAhead(x, 0, 1);
        // A lie that is caught goes back: from 5 to 6, back to 3, then to 4. At 6 q would be heard on the way.
        x = Check.court(ONE + "word w=a;word w=not a;case p 4=a;case q 6=a;case r 7=a;back 3;clock 4;");
        x.say(0);
        ahead(x, 0, 2, new int[] {1, 0}, 1);
        notAhead(x, 0, 1);
    }

    private static void fromNow() {
        Check.part("AHEAD: .. from now");
        LieClock x = Check.court(ONE + "word w=a;word w=not a;case p 1=a;case q 2=a;case r 3=a;back 3;");
        notAhead(x, 1, 0);
        x.say(0);
        // p was heard, but not from now on.
        ahead(x, 1, 0, new int[] {0}, 0);
        notAhead(x, 0, 1);
        // 2, back to -1, and p is heard once more.
        ahead(x, 0, 2, new int[] {1, 0, 0}, 1);
        x.say(0);
        x.say(0);
        // At 3: what was heard is not heard again, but by a lie that is caught: 4, back to 1, then 2.
        ahead(x, 1, 2, new int[] {1, 0}, 1);
        notAhead(x, 0, 1);
    }

    private static void firstByNumbers() {
        Check.part("AHEAD: of alike ones the first by numbers");
        LieClock x = Check.court(ONE + "word w=a;word w=a;word w self=a;word w self=a;case p 9=a;case q 100=a;forth 3;");
        // Two SELF words and one more: (0, 2, 3) is ahead of (2, 0, 3), (2, 3, 0) and (0, 3, 2).
        ahead(x, 0, 1, new int[] {0, 2, 3}, 0);
        x = Check.court(ONE + "word w self=a;word w=a;word w=a;word w self=a;case p 9=a;case q 100=a;forth 3;");
        ahead(x, 0, 1, new int[] {0, 0, 3}, 0);
    }

    private static void liesInIt() {
        Check.part("LIES in it: how many of them are not true");
        LieClock x = Check.court(ONE + "word w=not a;word w=a;case p 4=a;case q 100=a;");
        ahead(x, 0, 1, new int[] {0, 0, 0, 0}, 4);
        x = Check.court(ONE + "word w=a;word w=not a;case p 4=a;case q 100=a;");
        ahead(x, 0, 1, new int[] {0, 0, 0, 0}, 0);
        // Not caught they are lies as well; SELF and not true brings nothing.
        x = Check.court(ONE + "word w self=not a;word w self=a;case p 3=a;case q 100=a;forth 1;back 0;");
        ahead(x, 0, 1, new int[] {0, 1}, 1);
    }

    private static void noWordsAtAll() {
        Check.part("AHEAD with no WORDS");
        LieClock x = Check.court("fact a yes;witness w;case p 1=a;case q 2=a;");
        notAhead(x, 0, 1);
        Check.due("smallest()", x.smallest(), -2);
        Check.due("settled(0)", x.settled(0), -2);
        Check.due("order(0, false)", x.order(0, false), 0);
        Check.due("order(1, false)", x.order(1, false), -1000000);
        Check.due("never(0, 0)", x.never(0, 0), 1);
    }

    private static void atMostSix() {
        Check.part("ORDERS of a set of WORDS (at most 6)");
        LieClock x = Check.court(ONE + Check.many("word w=a;", 16));
        int[] six = {0x3F, 0xFC00, 0x8421 | 0x42, 0x8001 | 0x7800};
        for (int set : six) {
            Check.due("bits of the set", Integer.bitCount(set), 6);
            Check.due("order(" + set + ", true)", x.order(set, true), 6);
            Check.due("order(" + set + ", false)", x.order(set, false), 6);
            Check.due("never(" + set + ", 6)", x.never(set, 6), 0);
            Check.due("never(" + set + ", 7)", x.never(set, 7), 1);
            int w = 0;
            for (int i = 0; i < 6; i++) {
                while ((set >> w & 1) == 0) w++;
                Check.due("orderAt(" + set + ", true, " + i + ")", x.orderAt(set, true, i), w++);
            }
        }
        int[] seven = {0x7F, 0xFE00, 0xFFFF};
        for (int set : seven) {
            Check.due("order(" + set + ", true)", x.order(set, true), -1000000);
            Check.due("orderAt(" + set + ", true, 0)", x.orderAt(set, true, 0), -1);
            Check.due("never(" + set + ", 7)", x.never(set, 7), -1);
        }
        int[] none = {0x10000, 0x18000, -1, Integer.MIN_VALUE, Integer.MAX_VALUE, 1 << 30, Integer.MIN_VALUE | 1};
        for (int set : none) {
            Check.due("order(" + set + ", true)", x.order(set, true), -1000000);
            Check.due("orderAt(" + set + ", true, 0)", x.orderAt(set, true, 0), -1);
            Check.due("never(" + set + ", 7)", x.never(set, 7), -1);
        }
    }

    private static void eachSaidOnce() {
        Check.part("ORDERS: .. each SAID once");
        LieClock x = Check.court(ONE + "word w=a;word w self=a;word w=not a;forth 10;back 5;");
        order(x, 7, true, 8, new int[] {0, 1, 2});
        x.say(1);
        Check.due("clock()", x.clock(), 11);
        // What is said already lets a minute pass, and FORTH is not asked again.
        order(x, 2, true, 12, new int[] {1});
        order(x, 3, false, 13, new int[] {0, 1});
        x.say(2);
        Check.due("clock()", x.clock(), 7);
        order(x, 7, false, 10, new int[] {0, 1, 2});
    }

    private static void emptyOrder() {
        Check.part("ORDERS of an empty set");
        LieClock x = Check.court(ONE + "word w=a;clock 7;");
        order(x, 0, true, 7, new int[0]);
        order(x, 0, false, 7, new int[0]);
        x.pause(3);
        order(x, 0, false, 10, new int[0]);
        for (int minute : new int[] {9, 10, 11, Integer.MIN_VALUE, Integer.MAX_VALUE}) {
            Check.due("never(0, " + minute + ")", x.never(0, minute), 1);
        }
    }

    private static void earliestAndLatest() {
        Check.part("the earliest, or the latest, that THE CLOCK can stand at behind them");
        // w's SELF ahead of his other word 10 minutes, behind it 20; v's word is a minute anywhere.
        LieClock x = Check.court("fact a yes;witness v;witness w;word v=a;word w self=a;word w=a;forth said*10;");
        order(x, 6, false, 12, new int[] {1, 2});
        order(x, 6, true, 22, new int[] {2, 1});
        order(x, 7, false, 13, new int[] {0, 1, 2});
        order(x, 7, true, 23, new int[] {0, 2, 1});
        // Asked again with the other end, and behind a thing done.
        order(x, 7, false, 13, new int[] {0, 1, 2});
        x.say(2);
        order(x, 7, false, 24, new int[] {0, 1, 2});
        x.undo();
        order(x, 7, false, 13, new int[] {0, 1, 2});
        Check.read(x, ONE + "word w=a;word w=a;word w=a;clock 9;");
        order(x, 7, false, 12, new int[] {0, 1, 2});
    }

    private static void alikeOrders() {
        Check.part("ORDERS: of alike ones the first by numbers");
        LieClock x = Check.court(ONE + Check.many("word w=a;", 8));
        order(x, 0xB5 & 0xFF, true, 5, new int[] {0, 2, 4, 5, 7});
        order(x, 0xFC, false, 6, new int[] {2, 3, 4, 5, 6, 7});
        // The lie last or first: caught at the other's word; said alike, so (0, 1) is first both times.
        x = Check.court(ONE + "word w=not a;word w=a;back 4;");
        order(x, 3, true, -2, new int[] {0, 1});
        order(x, 3, false, -2, new int[] {0, 1});
    }

    private static void neverComes() {
        Check.part("NEVER: whether there is an order of them in which THE CLOCK, going forward, never comes to a minute");
        LieClock x = Check.court("fact a yes;witness v;witness w;word v=a;word w=not a;word w=a;back 5;clock 10;");
        // v last: 11, 12, back to 7, 8. v first: 11, 12, 13, back to 8. v between: as v first.
        int[] minutes = {6, 7, 8, 9, 10, 11, 12, 13, 14};
        int[] due = {1, 1, 1, 1, 1, 0, 0, 1, 1};
        for (int i = 0; i < minutes.length; i++) Check.due("never(7, " + minutes[i] + ")", x.never(7, minutes[i]), due[i]);
        Check.due("never(7, least)", x.never(7, Integer.MIN_VALUE), 1);
        Check.due("never(7, most)", x.never(7, Integer.MAX_VALUE), 1);
        Check.due("never(7, -1000000)", x.never(7, -1000000), 1);
        // One word has one order.
        Check.due("never(1, 11)", x.never(1, 11), 0);
        Check.due("never(1, 10)", x.never(1, 10), 1);
        x.say(1);
        x.say(2);
        // At 7 now: by two words said already it comes to 8 and 9.
        int[] then = {1, 0, 0, 1};
        for (int i = 0; i < 4; i++) Check.due("never(3, " + (7 + i) + ")", x.never(3, 7 + i), then[i]);
    }

    private static void neverByForthAndBack() {
        Check.part("NEVER: .. going forward, on the way of FORTH, and not when set back");
        LieClock x = Check.court(ONE + "word w self=a;word w=not a;forth 4;back 3;");
        // (0, 1): 1 .. 5, 6, back to 3. (1, 0): 1, 2 .. 6, back to 3.
        int[] due = {1, 0, 0, 0, 0, 0, 0, 1};
        for (int m = 0; m < 8; m++) Check.due("never(3, " + m + ")", x.never(3, m), due[m]);
        x = Check.court("fact a yes open;" + "witness w;word w=not a;word w=not a;back 7;");
        // 1, back to -6, then -5, back to -12.
        Check.due("never(3, 1)", x.never(3, 1), 0);
        Check.due("never(3, -5)", x.never(3, -5), 0);
        for (int m : new int[] {0, -1, -4, -6, -7, -11, -12}) Check.due("never(3, " + m + ")", x.never(3, m), 1);
    }

    private static void neverByThemAlone() {
        Check.part("NEVER: .. an order of them, and of no others");
        LieClock x = Check.court("fact a yes open;witness w;word w self=a;word w=not a;forth 10;back 100;");
        Check.due("never(1, 5)", x.never(1, 5), 0);
        // The lie first: 1, back to -99, and then to -88.
        Check.due("never(3, 5)", x.never(3, 5), 1);
        Check.due("never(3, 1)", x.never(3, 1), 0);
    }

    private static void neverAtTheTop() {
        Check.part("NEVER at the top, where it stays");
        LieClock x = Check.court(ONE + "word w=a;word w=a;");
        for (int i = 0; i < 33; i++) x.pause(3000);
        x.pause(999);
        Check.due("clock()", x.clock(), 99999);
        Check.due("never(1, 100000)", x.never(1, 100000), 0);
        Check.due("never(3, 100001)", x.never(3, 100001), 1);
        x.pause(1);
        Check.due("never(3, 100000)", x.never(3, 100000), 1);
        Check.due("never(3, 100001)", x.never(3, 100001), 1);
    }

    private static void smallest() {
        Check.part("SMALLEST set of WORDS that don't STAND together");
        Check.due("smallest() of no words", Check.court(SIX).smallest(), -2);
        Check.due("smallest() of true ones", Check.court(SIX + "word w=a;word w=b or not c;").smallest(), -2);
        Check.due("smallest() of one that can't be", Check.court(SIX + "word w=a;word w=b and not b;").smallest(), 2);
        // A set that is not all true may stand, too.
        Check.due("smallest() of lies that stand", Check.court(SIX + "word w=not a;word w=not b;").smallest(), -2);
        // Six words, and one that all of them are against: no six of them.
        LieClock x = Check.court(SIX + "word w=a;word w=b;word w=c;word w=d;word w=e;word w=f;word w=not(" + ALL_SIX + ");");
        Check.due("smallest() of seven", x.smallest(), 127);
        x = Check.court(SIX + Check.many("word w=a or b;", 14) + "word w=c;word w=not c;");
        Check.due("smallest() at the end", x.smallest(), 0xC000);
        x = Check.court(SIX + Check.many("word w=a;", 15) + "word w=f and not f;");
        Check.due("smallest() of the last", x.smallest(), 0x8000);
    }

    private static void smallestAlike() {
        Check.part("SMALLEST: of alike ones the least bits");
        // {0, 5} is 33, {1, 4} 18, {2, 3} 12: least are the bits, not the first numbers.
        LieClock x = Check.court(SIX + "word w=a;word w=b;word w=c;word w=not c;word w=not b;word w=not a;");
        Check.due("smallest()", x.smallest(), 12);
        x = Check.court(SIX + "word w=a;word w=b;word w=not b;word w=not a;");
        Check.due("smallest()", x.smallest(), 6);
        // Fewer come ahead of less bits.
        x = Check.court(SIX + "word w=a;word w=b;word w=not(a and b);word w=c;word w=not c;");
        Check.due("smallest()", x.smallest(), 24);
    }

    private static void asFactsAreOpenNow() {
        Check.part("SMALLEST: .. as FACTS are OPEN now");
        LieClock x = Check.court(SIX + "word w=a;word w=not b;word w=not a;");
        Check.due("smallest()", x.smallest(), 5);
        x.look(1);
        Check.due("smallest(), b open", x.smallest(), 2);
        x.look(0);
        Check.due("smallest(), a and b open", x.smallest(), 2);
        x.undo();
        x.undo();
        Check.due("smallest(), undone", x.smallest(), 5);
        // What is said and caught is nothing to it.
        x.say(0);
        x.say(2);
        Check.due("count(6)", x.count(6), 1);
        Check.due("smallest()", x.smallest(), 5);
    }

    private static void statesOfASet() {
        Check.part("STATES of a set of WORDS: how many may BE in which they hold");
        LieClock x = Check.court(SIX + "word w=a;word w=b or c;word w=not a;word w=d and e and f;");
        int[] sets = {0, 1, 2, 3, 5, 8, 11, 15};
        int[] due = {64, 32, 48, 24, 0, 8, 3, 0};
        for (int i = 0; i < sets.length; i++) Check.due("states(" + sets[i] + ")", x.states(sets[i]), due[i]);
        for (int set : new int[] {16, 17, -1, Integer.MIN_VALUE, Integer.MAX_VALUE}) {
            Check.due("states(" + set + ")", x.states(set), -1);
        }
        x.look(0);
        x.look(1);
        int[] then = {16, 16, 16, 16, 0, 2, 2, 0};
        for (int i = 0; i < sets.length; i++) Check.due("states(" + sets[i] + ")", x.states(sets[i]), then[i]);
        // What is said is nothing to it.
        x.say(3);
        Check.due("states(0)", x.states(0), 16);
        x = Check.court(SIX + Check.many("word w=a;", 16));
        Check.due("states(65535)", x.states(65535), 32);
        Check.due("states(65536)", x.states(65536), -1);
    }

    private static void fewestLooks() {
        Check.part("LOOKS for a WORD: the fewest FACTS more that, OPEN, leave no STATE .. in which it holds");
        LieClock x = Check.court(SIX + "word w=not(" + ALL_SIX + ");word w=not a and not b;word w=not a or not f;word w=a;"
            + "word w=a and not a;word w=a or not a;word w=not e;");
        int[] due = {63, 1, 33, -2, 0, -2, 16};
        for (int w = 0; w < due.length; w++) Check.due("looks(" + w + ")", x.looks(w), due[w]);
        for (int w : new int[] {-1, 7, Integer.MIN_VALUE, Integer.MAX_VALUE}) Check.due("looks(" + w + ")", x.looks(w), -1);
    }

    private static void factsMore() {
        Check.part("LOOKS: .. FACTS more");
        LieClock x = Check.court(SIX + "word w=not(" + ALL_SIX + ");word w=not a and not b;word w=a;");
        int left = 63;
        for (int f = 0; f < 6; f++) {
            Check.due("looks(0), " + f + " open", x.looks(0), left);
            x.look(f);
            left &= ~(1 << f);
            Check.due("looks(1)", x.looks(1), 0);
            Check.due("looks(2)", x.looks(2), -2);
        }
        Check.due("looks(0), all open", x.looks(0), 0);
    }

    private static void looksAlike() {
        Check.part("LOOKS: of alike ones the least bits");
        LieClock x = Check.court(SIX + "word w=not f and not e;word w=(not a or not f)and(not b or not c);");
        Check.due("looks(0)", x.looks(0), 16);
        // {a, f} is 33, {b, c} 6.
        Check.due("looks(1)", x.looks(1), 6);
        x.look(4);
        Check.due("looks(0), e open", x.looks(0), 0);
    }

    private static void settledByTrueWords() {
        Check.part("SETTLED: .. the fewest WORDS, of those that are true");
        LieClock x = Check.court(SIX + "word w=not a;word w=a;word w=b;word w=c;word w=d;word w=e;word w=f;"
            + "case p 1=a;case q 1=" + ALL_SIX + ";case r 1=a or not a;case s 1=a and b or c and not c;");
        int[] due = {2, 126, 0, 6};
        for (int c = 0; c < 4; c++) Check.due("settled(" + c + ")", x.settled(c), due[c]);
        for (int c : new int[] {-1, 4, Integer.MIN_VALUE, Integer.MAX_VALUE}) Check.due("settled(" + c + ")", x.settled(c), -1);
        x.look(0);
        int[] then = {0, 124, 0, 4};
        for (int c = 0; c < 4; c++) Check.due("settled(" + c + "), a open", x.settled(c), then[c]);
        // What is said is nothing to it.
        x.say(2);
        Check.due("settled(3)", x.settled(3), 4);
        x = Check.court(SIX + "word w=not a;word w=b or a;case p 1=a;case q 1=b;");
        Check.due("settled(0)", x.settled(0), -2);
        Check.due("settled(1)", x.settled(1), -2);
        x = Check.court(SIX + Check.many("word w=a or b;", 15) + "word w=f;case p 1=f;");
        Check.due("settled(0) by the last", x.settled(0), 0x8000);
    }

    private static void settledInNone() {
        Check.part("SETTLED: .. in all STATES .. or in none");
        LieClock x = Check.court(SIX + "word w=a;word w=b;case p 1=not a;case q 1=not a and not b;case r 1=not a or not b;"
            + "case s 1=a and not a;");
        int[] due = {1, 1, 3, 0};
        for (int c = 0; c < 4; c++) Check.due("settled(" + c + ")", x.settled(c), due[c]);
    }

    private static void settledAlike() {
        Check.part("SETTLED: of alike ones the least bits");
        LieClock x = Check.court(SIX + "word w=a;word w=b;word w=c;word w=not c or b;word w=not b or a;"
            + "case p 1=a and b;case q 1=a;");
        // {0, 1} is 3; {1, 4}, {2, 3} are more.
        Check.due("settled(0)", x.settled(0), 3);
        Check.due("settled(1)", x.settled(1), 1);
        x = Check.court(SIX + "word w=a;word w=b;word w=not c or b;word w=c;word w=not b or a;case p 1=b;case q 1=not b or not b;"
            + "case r 1=b and c;");
        Check.due("settled(0)", x.settled(0), 2);
        Check.due("settled(2)", x.settled(2), 10);
        // {0, 5} settles it, and {1, 2} with less bits.
        x = Check.court(SIX + "word w=a;word w=b;word w=c or not b;word w=d;word w=e;word w=c or not a;case p 1=c;");
        Check.due("settled(0)", x.settled(0), 6);
    }

    private static void oneBehindTheOther() {
        Check.part("SMALLEST, LOOKS, SETTLED, ORDERS: asked one behind the other");
        LieClock x = Check.court(SIX + "word w=not a;word w=b;word w=a;word w=not c or not d;case p 1=a;case q 1=c and d;case r 1=b;");
        for (int round = 0; round < 2; round++) {
            Check.due("smallest()", x.smallest(), 5);
            Check.due("settled(0)", x.settled(0), 4);
            Check.due("looks(3)", x.looks(3), 12);
            Check.due("settled(1)", x.settled(1), -2);
            Check.due("looks(0)", x.looks(0), 1);
            Check.due("settled(2)", x.settled(2), 2);
            Check.due("looks(1)", x.looks(1), -2);
            order(x, 6, round == 0, 2, new int[] {1, 2});
            order(x, 0, round == 0, 0, new int[0]);
            order(x, 4, round == 0, 1, new int[] {2});
        }
        // Behind a restore, too.
        x = Check.court(ONE + "word w=a;case p 3=a;case q 9=a;");
        x.hold(0);
        x.pause(1);
        ahead(x, 0, 1, new int[2], 0);
        Check.due("order(1, true)", x.order(1, true), 2);
        x.restore(0);
        ahead(x, 0, 1, new int[3], 0);
        Check.due("order(1, true)", x.order(1, true), 1);
    }

    private static void fiveReadings() {
        Check.part("THE BOOK: readings of THE CLOCK, 5 at most");
        LieClock x = Check.court(ONE + Check.many("word w=a;", 16));
        long rows = 1;
        for (int i = 0; i < 5; i++) {
            Check.due("write(" + (i + 1) + ")", x.write(i + 1), i);
            Check.due("count(8)", x.count(8), i + 1);
            rows *= 16;
            Check.due("fits(" + (i + 1) + ")", x.fits(i + 1), rows);
            Check.due("fits(" + (i + 2) + ")", x.fits(i + 2), -1);
        }
        Check.due("write(6)", x.write(6), -1);
        Check.due("count(8)", x.count(8), 5);
        Check.due("fits(5)", x.fits(5), 1048576);
        Check.due("fits(6)", x.fits(6), -1);
        Check.due("burn()", x.burn(), 5);
        Check.due("write(1)", x.write(1), 0);
        Check.due("fits(1)", x.fits(1), 16);
        for (int i = 1; i < 5; i++) x.write(9);
        Check.due("fits(5) of five others", x.fits(5), 0);
        Check.due("fits(4) of five others", x.fits(4), 0);
    }

    private static void fromTheBegin() {
        Check.part("THE BOOK: .. from the text's begin");
        LieClock x = Check.court("fact a yes;witness w;word w=a;word w=not a;word w self=a;case p 8=a;forth heard+1;back 4;clock 7;");
        x.look(0);
        x.say(0);
        x.say(2);
        x.pause(50);
        x.write(8);
        x.write(6);
        // At 8 p is heard: (2) would come to 10. (0, 1), (1, 0); not open: (1) alone is not caught.
        Check.due("fits(1)", x.fits(1), 2);
        Check.due("fits(2)", x.fits(2), 0);
        x.burn();
        x.write(8);
        x.write(5);
        Check.due("fits(2)", x.fits(2), 2);
        Check.due("surely(2)", x.surely(2), 3);
        x.burn();
        x.write(10);
        Check.due("fits(1)", x.fits(1), 1);
        Check.due("surely(1)", x.surely(1), 4);
        // What the text tells as open is open.
        x = Check.court("fact a yes open;witness w;word w=a;word w=not a;back 4;clock 7;");
        x.write(4);
        Check.due("fits(1)", x.fits(1), 1);
        Check.due("liars(1)", x.liars(1), 1);
    }

    private static void oneWordMore() {
        Check.part("each behind one WORD more that was SAID");
        LieClock x = Check.court(ONE + "word w=a;word w self=a;forth 5;");
        x.write(1);
        x.write(7);
        x.write(8);
        Check.due("fits(0)", x.fits(0), 1);
        Check.due("fits(1)", x.fits(1), 1);
        Check.due("fits(2)", x.fits(2), 1);
        // (0, 1, 0) and (0, 1, 1).
        Check.due("fits(3)", x.fits(3), 2);
        Check.due("surely(3)", x.surely(3), 3);
        x.burn();
        x.write(0);
        // The begin itself is no reading.
        Check.due("fits(1)", x.fits(1), 0);
    }

    private static void rows() {
        Check.part("FITS: all rows of WORDS");
        LieClock x = Check.court(ONE + "word w=a;word w=a;word w=a;");
        for (int i = 1; i <= 5; i++) x.write(i);
        long[] due = {1, 3, 9, 27, 81, 243};
        for (int k = 0; k <= 5; k++) Check.due("fits(" + k + ")", x.fits(k), due[k]);
        Check.due("surely(5)", x.surely(5), 0);
        x = Check.court(ONE + "word w=a;");
        for (int i = 1; i <= 5; i++) x.write(i);
        Check.due("fits(5)", x.fits(5), 1);
        Check.due("surely(5)", x.surely(5), 1);
        // Without words nothing fits but the empty row.
        x = Check.court(ONE);
        x.write(0);
        Check.due("fits(0)", x.fits(0), 1);
        Check.due("fits(1)", x.fits(1), 0);
    }

    private static void firstReadings() {
        Check.part("as KNOWN by the first k readings");
        LieClock x = Check.court(ONE + "word w=a;word w=not a;back 3;");
        x.write(1);
        x.write(2);
        x.write(50);
        // (0, 0) and (1, 1); the third fits nothing, and does not harm the first two.
        Check.due("fits(2)", x.fits(2), 2);
        Check.due("fits(3)", x.fits(3), 0);
        Check.due("fits(1)", x.fits(1), 2);
        Check.due("fits(0)", x.fits(0), 1);
        for (int k : new int[] {-1, 4, 5, 6, Integer.MIN_VALUE, Integer.MAX_VALUE}) {
            Check.due("fits(" + k + ")", x.fits(k), -1);
            Check.due("surely(" + k + ")", x.surely(k), -1);
            Check.due("liars(" + k + ")", x.liars(k), -1);
        }
    }

    private static void surelySaid() {
        Check.part("SURELY said: a WORD that is in all of them (none if nothing FITS)");
        LieClock x = Check.court(ONE + "word w=a;word w=not a;word w=not a;back 3;");
        x.write(1);
        x.write(-1);
        x.write(0);
        Check.due("surely(0)", x.surely(0), 0);
        Check.due("surely(1)", x.surely(1), 0);
        // (0, 1), (0, 2), (1, 0), (2, 0): the true one is in all, each lie in some.
        Check.due("fits(2)", x.fits(2), 4);
        Check.due("surely(2)", x.surely(2), 1);
        // By a third word said again: (0, 1, 0 or 1), and so on; the other lie would be caught: -3.
        Check.due("fits(3)", x.fits(3), 8);
        Check.due("surely(3)", x.surely(3), 1);
        x.write(-2);
        Check.due("surely(4)", x.surely(4), 7);
        x.write(77);
        Check.due("surely(5)", x.surely(5), 0);
        x = Check.court(ONE + Check.many("word w=a;", 15) + "word w self=a;forth 9;");
        x.write(10);
        Check.due("surely(1) of the 16th", x.surely(1), 0x8000);
    }

    private static void liars() {
        Check.part("LIAR: a WITNESS of whom in each of them some WORD is CAUGHT");
        LieClock x = Check.court("fact a yes;fact b yes;witness u;witness v;witness w;word v=a;word v=not a;word v=not a;word w=b;"
            + "word w=not b;word u=not a;back 3;");
        x.write(1);
        x.write(2);
        x.write(0);
        x.write(-2);
        Check.due("liars(0)", x.liars(0), 0);
        Check.due("liars(1)", x.liars(1), 0);
        Check.due("liars(2)", x.liars(2), 0);
        // Of two or more the third word catches one, of v or of w.
        Check.due("liars(3)", x.liars(3), 0);
        // One of v and one of w, or v's two: w has but one lie. u's stands.
        Check.due("liars(4)", x.liars(4), 2);
        x.burn();
        x.write(1);
        x.write(2);
        x.write(-3);
        // Two at once: both of v's lies, by his true word; by one lie or the other, but he in all of them.
        Check.due("fits(3)", x.fits(3), 2);
        Check.due("liars(3)", x.liars(3), 2);
        Check.due("surely(3)", x.surely(3), 7);
        x = Check.court(SIX + "witness q;witness r;witness s;witness t;witness u;word u=a and not a;back 9;");
        x.write(-8);
        Check.due("liars(1) of the sixth", x.liars(1), 32);
        // One witness, but another of his words in each row.
        x = Check.court(ONE + "word w=a;word w=not a;word w=not a;back 3;");
        x.write(1);
        x.write(-1);
        Check.due("liars(2)", x.liars(2), 1);
        Check.due("surely(2)", x.surely(2), 1);
    }

    private static void nothingFits() {
        Check.part("(none if nothing FITS), (0 if nothing FITS)");
        LieClock x = Check.court("fact a yes open;witness w;word w=not a;word w=a;back 3;");
        for (int reading : new int[] {2, 0, 100000, -100000, -3}) {
            x.write(reading);
            Check.due("fits(1) of " + reading, x.fits(1), 0);
            Check.due("surely(1) of " + reading, x.surely(1), 0);
            Check.due("liars(1) of " + reading, x.liars(1), 0);
            x.burn();
        }
    }
}
