import java.lang.reflect.Field;

/** The document's part II: each sentence that names an edge, one method for each; the sentence is its part. */
public final class CourtEdgeTest {
    private static final String PAIR = "fact a yes;witness w;word w=a;word w=not a;";
    private static final String SIX = "fact a yes;fact b no;fact c yes;fact d no;fact e yes;fact f no;";

    public static void main(String[] args) throws Exception {
        mayBe();
        stand();
        comesToAMinute();
        whatBringsItThere();
        eachTimeAgain();
        dueIsNoTimeOfDay();
        setBack();
        neverAbove();
        neverBelow();
        verdictNone();
        verdictAllOrNone();
        verdictOfLiveWords();
        verdictThen();
        firstAMinute();
        saidAlready();
        caughtAlready();
        forthIsAsked();
        witnessLookedAt();
        lookedAtByNumbers();
        waits();
        heldTo();
        wraps();
        roundedTowardsZero();
        dividesByZero();
        binding();
        lies();
        said();
        minute();
        minuteBelowZero();
        heard();
        open();
        shares();
        sharesAsTold();
        Check.end();
    }

    /** The minutes of a FORTH that a new court has by a law. */
    private static int forth(String law) {
        LieClock x = Check.court("fact a yes;witness w;word w self=a;forth " + law + ";");
        Check.due("say(0) by " + law, x.say(0), 2);
        Check.due("share(0) by " + law, x.share(0), x.clock() - 1);
        return x.clock() - 1;
    }

    /** The minutes of a BACK that a new court has by a law. */
    private static int back(String law) {
        LieClock x = Check.court("fact a yes open;witness w;word w=not a;back " + law + ";");
        Check.due("say(0) by " + law, x.say(0), 1);
        Check.due("share(0) by " + law, x.share(0), x.clock() - 1);
        return 1 - x.clock();
    }

    /** No run of calls can bring the clock so low: a word is caught once, by 120 minutes at most. */
    private static void setClock(LieClock x, int minute) throws Exception {
        Field now = LieClock.class.getDeclaredField("now");
        now.setAccessible(true);
        Field clock = now.get(x).getClass().getDeclaredField("clock");
        clock.setAccessible(true);
        clock.setInt(now.get(x), minute);
    }

    /** A court without words against anybody whose clock is brought high by waiting. */
    private static LieClock high(String text, int minute) {
        LieClock x = Check.court(text);
        for (int i = 0; i < 40; i++) x.pause(Math.min(3000, minute - x.clock()));
        Check.due("clock()", x.clock(), minute);
        return x;
    }

    private static void mayBe() {
        Check.part("It may BE if all OPEN FACTS are in it as they are");
        Check.due("states(0) of no facts", new LieClock().states(0), 1);
        LieClock x = Check.court(SIX);
        int[] left = {64, 32, 16, 8, 4, 2, 1};
        for (int f = 0; f < 6; f++) {
            Check.due("states(0), " + f + " open", x.states(0), left[f]);
            x.look(f);
        }
        Check.due("states(0), all open", x.states(0), 1);
        x = Check.court("fact a yes open;fact b no open;witness w;word w=a;word w=b;word w=not b;word w=not a;");
        int[] holds = {1, 0, 1, 0};
        for (int w = 0; w < 4; w++) Check.due("states of " + w, x.states(1 << w), holds[w]);
    }

    private static void stand() {
        Check.part("WORDS STAND together if there is a STATE that may BE in which all of them hold");
        LieClock x = Check.court("fact a yes;fact b no;witness w;witness v;word w=a or b;word w=not a;word w=not b;");
        Check.due("witness(0, 3) with none said", x.witness(0, 3), 1);
        Check.due("witness(1, 3) with no words", x.witness(1, 3), 1);
        x.say(0);
        x.say(1);
        Check.due("say(2)", x.say(2), 1);
        // Each two of them stand together, all three don't; not true is word 1 alone.
        Check.due("word(1, 4)", x.word(1, 4), 1);
        Check.due("count(6)", x.count(6), 1);
        Check.due("witness(0, 3)", x.witness(0, 3), 1);
    }

    private static void comesToAMinute() {
        Check.part("at each minute it comes to all CASES that are DUE then are HEARD");
        LieClock x = Check.court("fact a yes;case p 5=a;case q 5=not a;case r 6=a;case s 4=a;clock 4;");
        x.pause(0);
        Check.due("count(7) at begin", x.count(7), 0);
        x.pause(1);
        Check.due("count(7) at 5", x.count(7), 2);
        Check.due("hearing(0, 1)", x.hearing(0, 1), 1);
        Check.due("hearing(1, 1)", x.hearing(1, 1), 1);
        x.pause(0);
        Check.due("count(7) still at 5", x.count(7), 2);
        x.pause(1);
        Check.due("count(7) at 6", x.count(7), 3);
        Check.due("hearing(2, 1)", x.hearing(2, 1), 1);
        x.pause(3000);
        Check.due("count(7)", x.count(7), 3);
        // Where it begins it has not come to.
        x = Check.court("fact a yes;case p 0=a;case q 1=a;case r 2879=a;case s 2878=a;");
        Check.due("pause(2878)", x.pause(2878), 2878);
        int[] before = {0, 1, 0, 1};
        for (int c = 0; c < 4; c++) Check.due("hearing(" + c + ", 1)", x.hearing(c, 1), before[c]);
        x.pause(1);
        Check.due("hearing(2, 1)", x.hearing(2, 1), 1);
        x = Check.court("fact a yes;case p 2879=a;clock 2879;");
        x.pause(3000);
        Check.due("count(7)", x.count(7), 0);
        StringBuilder b = new StringBuilder("fact z yes;");
        for (char c = 'a'; c < 'i'; c++) b.append("case ").append(c).append(" 1=z;");
        x = Check.court(b.toString());
        x.pause(1);
        Check.due("count(7) of eight at one minute", x.count(7), 8);
    }

    private static void whatBringsItThere() {
        Check.part("THE CLOCK goes forward minute by minute: by a WORD, a LOOK, by FORTH and by waiting");
        LieClock x = Check.court(PAIR + "word w self=a;case p 1=a;case q 2=a;case r 4=a;case s 8=a;forth 5;");
        x.say(0);
        Check.due("hearing(0, 1) by say", x.hearing(0, 1), 1);
        x.look(0);
        Check.due("hearing(1, 1) by look", x.hearing(1, 1), 1);
        x.say(2);
        Check.due("clock()", x.clock(), 8);
        Check.due("hearing(2, 1) on the way of FORTH", x.hearing(2, 1), 1);
        Check.due("hearing(3, 1) at its end", x.hearing(3, 1), 1);
    }

    private static void eachTimeAgain() {
        Check.part("(each time again)");
        LieClock x = Check.court(PAIR + "case p 2=a;case q 0=a;back 2;");
        x.say(0);
        x.say(1);
        Check.due("clock()", x.clock(), 0);
        Check.due("hearing(0, 1)", x.hearing(0, 1), 1);
        x.pause(2);
        Check.due("hearing(0, 1)", x.hearing(0, 1), 2);
        Check.due("count(7)", x.count(7), 2);
        // 0 is come to from below it.
        x = Check.court(PAIR + "case q 0=a;back 3;");
        x.say(0);
        x.say(1);
        Check.due("clock()", x.clock(), -1);
        Check.due("hearing(0, 1)", x.hearing(0, 1), 0);
        x.pause(1);
        Check.due("hearing(0, 1)", x.hearing(0, 1), 1);
    }

    private static void dueIsNoTimeOfDay() {
        Check.part("DUE: a minute 0 .. 2879 of THE CLOCK, not of a day");
        LieClock x = Check.court("fact a yes;case p 5=a;case q 1445=a;");
        x.pause(100);
        Check.due("hearing(1, 1) at 100", x.hearing(1, 1), 0);
        x.pause(1400);
        Check.due("hearing(0, 1) at 1500", x.hearing(0, 1), 1);
        Check.due("hearing(1, 1) at 1500", x.hearing(1, 1), 1);
        x.pause(3000);
        Check.due("count(7) at 4500", x.count(7), 2);
    }

    private static void setBack() {
        Check.part("Set back it does not stop anywhere");
        LieClock x = Check.court(PAIR + "case p 3=a;case q 1=a;back 5;clock 4;");
        x.say(0);
        x.say(1);
        Check.due("clock()", x.clock(), 1);
        Check.due("count(7)", x.count(7), 0);
        x.pause(1);
        Check.due("count(7) at 2", x.count(7), 0);
        x.pause(1);
        Check.due("count(7) at 3", x.count(7), 1);
        Check.due("hearing(0, 1)", x.hearing(0, 1), 1);
    }

    private static void neverAbove() {
        Check.part("It never goes .. above 100000: it stays there");
        String text = PAIR + "word w self=a;forth 7;back 5;";
        LieClock x = high(text, 99999);
        Check.due("pause(1)", x.pause(1), 100000);
        Check.due("pause(1) there", x.pause(1), 100000);
        Check.due("pause(3000) there", x.pause(3000), 100000);
        Check.due("say(0) there", x.say(0), 0);
        Check.due("clock()", x.clock(), 100000);
        Check.due("would(2) there", x.would(2), 100000);
        Check.due("would(1) there", x.would(1), 99995);
        Check.due("order(7, true) there", x.order(7, true), 100000);
        Check.due("order(7, false) there", x.order(7, false), 99995);
        Check.due("never(1, 100000) there", x.never(1, 100000), 1);
        Check.due("never(1, 100001) there", x.never(1, 100001), 1);
        Check.due("say(2) there", x.say(2), 2);
        Check.due("clock()", x.clock(), 100000);
        Check.due("say(1) there", x.say(1), 1);
        Check.due("clock() set back", x.clock(), 99995);
        Check.due("look(0)", x.look(0), 0);
        Check.due("clock()", x.clock(), 99996);
        x = high(text, 99993);
        x.say(2);
        Check.due("clock() by 8 from 99993", x.clock(), 100000);
        x = high(text, 99992);
        x.say(2);
        Check.due("clock() by 8 from 99992", x.clock(), 100000);
        x = high(text, 99991);
        x.say(2);
        Check.due("clock() by 8 from 99991", x.clock(), 99999);
        x = high(text, 97001);
        Check.due("pause(3000) from 97001", x.pause(3000), 100000);
        Check.due("look(0) there", x.look(0), 0);
        Check.due("clock()", x.clock(), 100000);
    }

    private static void neverBelow() throws Exception {
        Check.part("It never goes below -100000 .. : it stays there");
        int[] from = {-99952, -99953, -99951, -100000, -99999};
        int[] to = {-100000, -100000, -99999, -100000, -100000};
        for (int i = 0; i < from.length; i++) {
            LieClock x = Check.court(PAIR + "word w=not a;back 50;");
            setClock(x, from[i]);
            x.say(0);
            Check.due("would(1) from " + from[i], x.would(1), to[i]);
            Check.due("order(2, false) from " + from[i], x.order(2, false), to[i]);
            Check.due("say(1)", x.say(1), 1);
            Check.due("clock() from " + from[i], x.clock(), to[i]);
            Check.due("share(0), as told by the law", x.share(0), -50);
            Check.due("pause(1)", x.pause(1), to[i] + 1);
        }
        // As low as calls alone can come: sixteen lies of 120 minutes, by one look.
        LieClock x = Check.court("fact a yes;witness w;" + Check.many("word w=not a;", 16) + "back 120;");
        for (int w = 0; w < 16; w++) x.say(w);
        Check.due("look(0)", x.look(0), 16);
        Check.due("clock()", x.clock(), 17 - 16 * 120);
    }

    private static void verdictNone() {
        Check.part("VERDICT .. 3 there are none");
        LieClock x = Check.court("fact a yes;witness v;witness w;word v=a;word w=not a;case p 3=a or not a;"
            + "case q 3=a and not a;case r 3=a;");
        x.say(0);
        x.say(1);
        for (int c = 0; c < 3; c++) Check.due("hearing(" + c + ", 3)", x.hearing(c, 3), 3);
        x.pause(1);
        for (int c = 0; c < 3; c++) Check.due("hearing(" + c + ", 2)", x.hearing(c, 2), 3);
        // Nobody is caught by another one's words: only by a look.
        Check.due("count(6)", x.count(6), 0);
        x.look(0);
        Check.due("count(6)", x.count(6), 1);
        int[] due = {1, 0, 1};
        for (int c = 0; c < 3; c++) Check.due("hearing(" + c + ", 3)", x.hearing(c, 3), due[c]);
    }

    private static void verdictAllOrNone() {
        Check.part("VERDICT .. 1 GUILTY holds in all of them; 0 in none; else 2");
        LieClock x = Check.court(SIX + "case p 1=a or not a;case q 1=f and not f;case r 1=a or b or c or d or e or f;"
            + "case s 1=not a and not b and not c and not d and not e and not f;");
        int[] due = {1, 0, 2, 2};
        for (int c = 0; c < 4; c++) Check.due("hearing(" + c + ", 3)", x.hearing(c, 3), due[c]);
        x.look(0);
        int[] then = {1, 0, 1, 0};
        for (int c = 0; c < 4; c++) Check.due("hearing(" + c + ", 3)", x.hearing(c, 3), then[c]);
        for (int c = 0; c < 4; c++) Check.due("hearing(" + c + ", 2)", x.hearing(c, 2), due[c]);
    }

    private static void verdictOfLiveWords() {
        Check.part("in which all WORDS that are said and not CAUGHT hold");
        LieClock x = Check.court("fact a yes;fact b yes;witness v;witness w;word v=a;word w=not a;word w=a;word w=b;"
            + "case p 90=a and b;case q 90=not a;");
        Check.due("hearing(0, 3)", x.hearing(0, 3), 2);
        x.say(1);
        Check.due("hearing(0, 3) by a lie", x.hearing(0, 3), 0);
        Check.due("hearing(1, 3) by a lie", x.hearing(1, 3), 1);
        x.say(2);
        // The lie is caught: it counts no more, also if it is said again.
        Check.due("hearing(1, 3)", x.hearing(1, 3), 0);
        x.say(1);
        Check.due("hearing(1, 3)", x.hearing(1, 3), 0);
        Check.due("hearing(0, 3)", x.hearing(0, 3), 2);
        x.say(3);
        Check.due("hearing(0, 3)", x.hearing(0, 3), 1);
    }

    private static void verdictThen() {
        Check.part("VERDICT of a CASE when it is HEARD");
        LieClock x = Check.court(PAIR + "word w self=a;case p 1=a;case q 2=a;case r 3=a;case s 4=a;forth 1;back 3;");
        x.say(2);
        // At 1 nothing is said yet; at 2, by FORTH, it is.
        Check.due("hearing(0, 2)", x.hearing(0, 2), 2);
        Check.due("hearing(1, 2)", x.hearing(1, 2), 1);
        x = Check.court(PAIR + "case p 2=a;case q 3=a;back 2;");
        x.say(1);
        x.say(0);
        // At 2 the lie was said and not caught; the second time it is caught.
        Check.due("hearing(0, 2)", x.hearing(0, 2), 0);
        Check.due("clock()", x.clock(), 0);
        x.pause(2);
        Check.due("hearing(0, 2) again", x.hearing(0, 2), 1);
        Check.due("hearing(0, 1)", x.hearing(0, 1), 2);
        Check.due("hearing(1, 2)", x.hearing(1, 2), -2);
        // A look: the minute comes ahead of it.
        x = Check.court("fact a yes;case p 1=a;case q 2=a;");
        x.look(0);
        Check.due("hearing(0, 2)", x.hearing(0, 2), 2);
        x.pause(1);
        Check.due("hearing(1, 2)", x.hearing(1, 2), 1);
    }

    private static void firstAMinute() {
        Check.part("SAY .. first THE CLOCK goes forward a minute");
        LieClock x = Check.court("fact a yes;witness w;word w self=a;forth minute;clock 1439;");
        x.say(0);
        // 1439 and a minute is a day's begin: FORTH is 0.
        Check.due("clock()", x.clock(), 1440);
        x = Check.court("fact a yes;witness w;word w self=a;forth heard*9;case p 1=a;");
        x.say(0);
        Check.due("clock()", x.clock(), 10);
    }

    private static void saidAlready() {
        Check.part("SAY a WORD (0 .. ; also one said already)");
        LieClock x = Check.court(PAIR + "word w self=a;forth 9;");
        Check.due("say(2)", x.say(2), 2);
        Check.due("clock()", x.clock(), 10);
        for (int i = 1; i <= 3; i++) {
            Check.due("say(2) again", x.say(2), 0);
            Check.due("clock()", x.clock(), 10 + i);
            Check.due("count(5)", x.count(5), 1);
            Check.due("count(10)", x.count(10), 1 + i);
            Check.due("share(0)", x.share(0), 9);
        }
    }

    private static void caughtAlready() {
        Check.part("Then it is said (if it is not CAUGHT already)");
        LieClock x = Check.court(PAIR + "case p 90=not a;back 4;");
        x.say(0);
        Check.due("say(1)", x.say(1), 1);
        Check.due("clock()", x.clock(), -2);
        Check.due("say(1) again", x.say(1), 0);
        Check.due("clock()", x.clock(), -1);
        Check.due("count(5)", x.count(5), 2);
        Check.due("count(6)", x.count(6), 1);
        Check.due("word(1, 3)", x.word(1, 3), 1);
        Check.due("word(1, 4)", x.word(1, 4), 1);
        Check.due("witness(0, 3)", x.witness(0, 3), 1);
        Check.due("hearing(0, 3)", x.hearing(0, 3), 0);
        Check.due("share(0)", x.share(0), -4);
        Check.due("look(0)", x.look(0), 0);
    }

    private static void forthIsAsked() {
        Check.part("If it is SELF, true, and was not said: FORTH");
        LieClock x = Check.court("fact a yes;fact b no;witness w;word w self=a;word w=a;word w self=b;forth 5;");
        Check.due("say(1), not SELF", x.say(1), 0);
        Check.due("clock()", x.clock(), 1);
        Check.due("say(2), not true", x.say(2), 0);
        Check.due("clock()", x.clock(), 2);
        Check.due("say(0)", x.say(0), 2);
        Check.due("clock()", x.clock(), 8);
        Check.due("say(0), said", x.say(0), 0);
        Check.due("clock()", x.clock(), 9);
        // Undone it was not said.
        x.undo();
        x.undo();
        Check.due("say(0), undone", x.say(0), 2);
        Check.due("clock()", x.clock(), 8);
        // FORTH, then his words are looked at.
        x = Check.court("fact a yes;witness w;word w=not a;word w self=a;forth 20;back minute;");
        x.say(0);
        Check.due("say(1)", x.say(1), 1);
        Check.due("clock()", x.clock(), 0);
        Check.due("share(0)", x.share(0), -2);
    }

    private static void witnessLookedAt() {
        Check.part("if his WORDS .. don't STAND together, each of them that is not true is CAUGHT");
        LieClock x = Check.court("fact a yes;fact b no;fact c yes;witness v;witness w;word w=a;word w=b;word w=not c;"
            + "word w=not a or b;word v=not a;word v=not c;word w=not a;back 1;");
        x.say(4);
        x.say(5);
        x.say(1);
        x.say(2);
        x.say(0);
        Check.due("count(6), all may be", x.count(6), 0);
        // b, not c, a and not a: all of w's that are not true, none of v's, none that was not said.
        Check.due("say(6)", x.say(6), 1);
        int[] caught = {0, 1, 1, 0, 0, 0, 1};
        for (int w = 0; w < 7; w++) Check.due("word(" + w + ", 4)", x.word(w, 4), caught[w]);
        Check.due("clock()", x.clock(), 3);
        Check.due("share(1)", x.share(1), -3);
        Check.due("witness(1, 1)", x.witness(1, 1), 3);
        Check.due("witness(0, 1)", x.witness(0, 1), 0);
        // v's lies stand by themselves, till a fact is open.
        Check.due("witness(0, 3)", x.witness(0, 3), 1);
        Check.due("look(2)", x.look(2), 2);
        Check.due("share(0)", x.share(0), -2);
        // One word that holds in no state can't stand.
        x = Check.court("fact a yes;witness w;word w=a and not a;word w=a;back 3;");
        Check.due("say(0)", x.say(0), 1);
        Check.due("clock()", x.clock(), -2);
    }

    private static void lookedAtByNumbers() {
        Check.part("LOOK at a FACT: .. then all WITNESSES are looked at, by numbers");
        LieClock x = Check.court("fact a yes;witness u;witness v;witness w;word w=not a;word v=not a;word u=a;back minute;");
        x.say(0);
        x.say(1);
        x.say(2);
        Check.due("look(0)", x.look(0), 2);
        // v is set back by 4, from 4 to 0, and w then by 0.
        Check.due("share(0)", x.share(0), 0);
        Check.due("share(1)", x.share(1), -4);
        Check.due("share(2)", x.share(2), 0);
        Check.due("clock()", x.clock(), 0);
        // The fact is open ahead of it: BACK counts it.
        x = Check.court("fact a yes;fact b no;witness w;word w=not a;back 7*open;");
        x.say(0);
        x.look(0);
        Check.due("clock()", x.clock(), -5);
    }

    private static void waits() {
        Check.part("WAIT: THE CLOCK goes forward so many minutes");
        LieClock x = Check.court(PAIR);
        Check.due("pause(1)", x.pause(1), 1);
        Check.due("pause(2999)", x.pause(2999), 3000);
        Check.due("pause(3000)", x.pause(3000), 6000);
    }

    private static void heldTo() {
        Check.part("BACK, FORTH: the E, held to 0 .. 120");
        String[] laws = {"0", "1", "119", "120", "121", "9999", "0-1", "0-9999", "120+1", "121-1", "1-1"};
        int[] due = {0, 1, 119, 120, 120, 120, 0, 0, 120, 120, 0};
        for (int i = 0; i < laws.length; i++) {
            Check.due("FORTH by " + laws[i], forth(laws[i]), due[i]);
            Check.due("BACK by " + laws[i], back(laws[i]), due[i]);
        }
        // It is held at its end alone: what is within may be more and less.
        Check.due("FORTH by 9999-9997", forth("9999-9997"), 2);
        Check.due("FORTH by 0-5+8", forth("0-5+8"), 3);
        Check.due("FORTH by (0-5)*(0-4)", forth("(0-5)*(0-4)"), 20);
        Check.due("FORTH by 500/100", forth("500/100"), 5);
    }

    private static void wraps() {
        Check.part("ints of 32 bits that wrap");
        String half = "8192*8192*16";
        String whole = "8192*8192*32";
        String[] laws = {whole, whole + "*2+5", "0-1-" + whole, half + "+" + half, "0-" + half + "-" + half + "-1",
            "0-" + whole, whole + "/(0-1)", "(" + whole + ")/(0-1)/(0-" + half + ")", whole + "-1",
            "8192*8192*64+8192*8192*64", "9999*9999*9999"};
        // The last one is 232 times 2 to the 32nd, and 3267617327 more, which is less than 0 as an int.
        int[] due = {0, 5, 120, 0, 120, 0, 0, 2, 120, 0, 0};
        for (int i = 0; i < laws.length; i++) {
            Check.due("FORTH by " + laws[i], forth(laws[i]), due[i]);
            Check.due("BACK by " + laws[i], back(laws[i]), due[i]);
        }
    }

    private static void roundedTowardsZero() {
        Check.part("/ rounded towards 0");
        String[] laws = {"7/2", "(0-7)/2+10", "7/(0-2)+10", "(0-7)/(0-2)", "1/2", "(0-1)/2+10", "1/9999", "(0-1)/9999+4"};
        int[] due = {3, 7, 7, 3, 0, 10, 0, 4};
        for (int i = 0; i < laws.length; i++) {
            Check.due("FORTH by " + laws[i], forth(laws[i]), due[i]);
            Check.due("BACK by " + laws[i], back(laws[i]), due[i]);
        }
    }

    private static void dividesByZero() {
        Check.part("an E that divides by 0 is 0");
        for (String law : new String[] {"5/0", "0/0", "7+5/0", "5/0+7", "7+(5/0)", "(5/0)*2+7", "7-5/(said-said)", "9/(1-1)",
            "1/(1/2)", "8+3*(2+(1/0))"}) {
            Check.due("FORTH by " + law, forth(law), 0);
            Check.due("BACK by " + law, back(law), 0);
        }
        // By no 0 it is what it is, also next time: 30 / (2 - said).
        LieClock x = Check.court("fact a yes;witness w;witness v;word w self=a;word w self=a;word w self=a;word v self=a;"
            + "forth 5+30/(2-said);");
        int[] due = {35, 0, 0, 35};
        for (int w = 0; w < 4; w++) {
            int before = x.clock();
            Check.due("say(" + w + ")", x.say(w), 2);
            Check.due("FORTH of " + w, x.clock() - before - 1, due[w]);
        }
    }

    private static void binding() {
        Check.part("E, PART, UNIT: from the left, * and / ahead of + and -");
        String[] laws = {"2+3*4", "(2+3)*4", "20-5-4", "20-(5-4)", "40/4/5", "40/(10/5)", "40/4*5", "7*5/2", "7*(5/2)",
            "2*3+4*5", "50-2*3-4*5", "1+(2*(3+(4*(5+(6)))))", "12/5*5", "100-99/10"};
        int[] due = {14, 20, 11, 19, 2, 20, 50, 17, 14, 26, 24, 95, 10, 91};
        for (int i = 0; i < laws.length; i++) Check.due("FORTH by " + laws[i], forth(laws[i]), due[i]);
    }

    private static void lies() {
        Check.part("lies: how many WORDS of that WITNESS are CAUGHT (ahead of this one)");
        LieClock x = Check.court("fact a yes;witness v;witness w;word w=not a;word w=not a;word w=not a;word v=not a;word w self=a;"
            + "word w self=a;back 10*lies+1;forth 30+lies;");
        for (int w = 0; w < 4; w++) x.say(w);
        Check.due("clock()", x.clock(), 4);
        x.say(5);
        // FORTH with none caught: 5 + 30; then 1, 11 and 21 back.
        Check.due("clock()", x.clock(), 2);
        x.say(4);
        Check.due("clock()", x.clock(), 2 + 1 + 33);
        Check.due("look(0)", x.look(0), 1);
        // v's own lies: none ahead.
        Check.due("clock()", x.clock(), 36);
        Check.due("share(0)", x.share(0), -1);
    }

    private static void said() {
        Check.part("said: how many of his WORDS are said (this one, too, those CAUGHT, too)");
        LieClock x = Check.court("fact a yes;witness v;witness w;word w self=a;word v=a;word w=not a;word w=not a;word w self=a;"
            + "forth said*10;back said;");
        x.say(1);
        x.say(0);
        Check.due("clock() with 1 said", x.clock(), 12);
        x.say(0);
        x.say(2);
        Check.due("clock() with 2 said", x.clock(), 12);
        x.say(3);
        Check.due("clock() with 3 said", x.clock(), 10);
        x.say(4);
        Check.due("clock() with 4 said", x.clock(), 51);
    }

    private static void minute() {
        Check.part("minute: the rest of THE CLOCK by 1440");
        int[] begins = {0, 1, 118, 119, 1438, 1439, 1440, 1550, 2878, 2879};
        int[] rests = {1, 2, 119, 120, 1439, 0, 1, 111, 1439, 0};
        for (int i = 0; i < begins.length; i++) {
            LieClock x = Check.court("fact a yes;witness w;word w self=a;forth minute;clock " + begins[i] + ";");
            x.say(0);
            Check.due("FORTH at " + (begins[i] + 1), x.share(0), Math.min(120, rests[i]));
            x = Check.court("fact a yes open;witness w;word w=not a;back minute-1400;clock " + begins[i] + ";");
            x.say(0);
            Check.due("BACK at " + (begins[i] + 1), -x.share(0), Math.max(0, rests[i] - 1400));
        }
        LieClock x = high("fact a yes;witness w;word w self=a;forth minute/12;", 99999);
        x.say(0);
        // 100000 is 69 days and 640 minutes.
        Check.due("FORTH at 100000", x.share(0), 53);
    }

    private static void minuteBelowZero() {
        Check.part("minute: .. (0 and more)");
        int[] clocks = {-1, 0, -2, -1440, -1441, -1439, -1442, -39, -40};
        int[] rests = {1439, 0, 1438, 0, 1439, 1, 1438, 1401, 1400};
        for (int i = 0; i < clocks.length; i++) {
            // Fourteen lies, caught at 15: 14 * 120 minutes back.
            LieClock x = Check.court("fact a yes;witness v;witness w;" + Check.many("word w=not a;", 14)
                + "word w=a;word v self=a;back 120;forth (minute-1400)*(minute/1400)+(1-minute/1400)*(minute+50);");
            for (int w = 0; w < 15; w++) x.say(w);
            Check.due("clock()", x.clock(), 15 - 14 * 120);
            x.pause(clocks[i] - 1 - x.clock());
            x.say(15);
            int rest = rests[i];
            Check.due("FORTH at " + clocks[i], x.share(0), rest >= 1400 ? rest - 1400 : Math.min(120, rest + 50));
        }
        LieClock x = Check.court("fact a yes;witness w;word w=not a;word w=not a;word w=a;back 100-minute/20;");
        x.say(0);
        x.say(1);
        x.say(2);
        // 3 - 100 is -97, whose minute is 1343: 100 - 67 more.
        Check.due("clock()", x.clock(), -130);
    }

    private static void heard() {
        Check.part("heard: how often CASES were HEARD");
        LieClock x = Check.court(PAIR + "word w self=a;word w self=a;case p 1=a;case q 1=a;case r 2=a;forth heard;back heard;");
        x.say(2);
        // Two at 1; FORTH is 2, and on its way r.
        Check.due("clock()", x.clock(), 3);
        x.say(1);
        Check.due("clock()", x.clock(), 1);
        x.pause(1);
        x.say(3);
        // r once more: 4.
        Check.due("clock()", x.clock(), 7);
        x.undo();
        x.undo();
        x.say(3);
        // Undone, but come to again by the word's own minute.
        Check.due("clock()", x.clock(), 2 + 4);
    }

    private static void open() {
        Check.part("open: how many FACTS are OPEN");
        LieClock x = Check.court("fact a yes;fact b no open;fact c no;witness w;word w self=a;word w self=a;word w=c;word w self=a;"
            + "forth 10*open;back 7*open;");
        x.say(0);
        Check.due("clock()", x.clock(), 11);
        x.look(0);
        x.say(1);
        Check.due("clock()", x.clock(), 33);
        x.say(2);
        x.look(2);
        Check.due("clock()", x.clock(), 35 - 21);
        Check.due("FORTH of none open", forth("open+4"), 4);
    }

    private static void shares() {
        Check.part("SHARE: minutes forward by his SELF WORDS, less those by which it was set back by his");
        LieClock x = Check.court("fact a yes;witness u;witness v;witness w;word v self=a;word v=not a;word w self=not a;"
            + "word w self=a;word w=a;forth 10+said;back 4;");
        for (int i = 0; i < 3; i++) Check.due("share(" + i + ")", x.share(i), 0);
        x.pause(50);
        x.say(4);
        Check.due("share(2), waits and words", x.share(2), 0);
        x.say(0);
        Check.due("share(1)", x.share(1), 11);
        x.say(1);
        Check.due("share(1)", x.share(1), 7);
        x.say(2);
        Check.due("share(2)", x.share(2), -4);
        x.say(3);
        Check.due("share(2)", x.share(2), 9);
        Check.due("share(1)", x.share(1), 7);
        Check.due("share(0)", x.share(0), 0);
        x.undo();
        Check.due("share(2) undone", x.share(2), -4);
    }

    private static void sharesAsTold() {
        Check.part("(as told by the laws)");
        LieClock x = high(PAIR + "word w self=a;forth 7;back 130;", 99997);
        x.say(2);
        Check.due("clock()", x.clock(), 100000);
        Check.due("share(0)", x.share(0), 7);
        x.say(1);
        // Held to 120, as the law is.
        Check.due("share(0)", x.share(0), 7 - 120);
        Check.due("clock()", x.clock(), 99880);
    }
}
