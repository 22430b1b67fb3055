/** The document's "Terms": each sentence about a text that names an edge, one method for each; the sentence is its part. */
public final class TermsEdgeTest {
    private static final String ONE = "fact a yes;witness w;";
    private static final String SIX_FACTS = "fact a yes;fact b yes;fact c yes;fact d yes;fact e yes;fact f yes;";
    private static final String[] QUOTED = {"fact", "yes", "no", "open", "witness", "word", "self", "case", "back",
        "forth", "clock", "or", "and", "not", "lies", "said", "minute", "heard"};

    public static void main(String[] args) {
        bytesOfText();
        blanks();
        longestTokens();
        lettersOfNames();
        quotedWords();
        digitsOfInts();
        noTokens();
        emptyText();
        everyTokenBehindEveryBegin();
        lettersByTheirPlace();
        numbers();
        minutes();
        notTold();
        lastTold();
        placeOfEnd();
        firstByPlace();
        tokensOfText();
        leastOfOnePlace();
        seventhFact();
        seventhWitness();
        seventeenthWord();
        ninthCase();
        seventhBracket();
        hardOnesFirst();
        twice();
        name();
        wrong();
        faultChangesNothing();
        inPlaceOfTheOneAhead();
        nothingIsLeftOfIt();
        Check.end();
    }

    private static String blanks(int n) {
        return Check.many(" ", n);
    }

    private static void bytesOfText() {
        Check.part("A TEXT has 2,000 bytes at most");
        Check.fault("clock 7;" + blanks(1992), 0, -1);
        Check.fault(blanks(1992) + "clock 7;", 0, -1);
        Check.fault(blanks(1999) + "#", 1, 1999);
        Check.fault(blanks(1993) + "clock 7", 1, 2000);
        LieClock x = new LieClock();
        Check.put(x, Check.bytes(blanks(1992) + "clock 7;"));
        Check.due("count(9)", x.count(9), 2000);
        Check.due("feed", x.feed('#', '#', '#', '#', '#'), -1);
        Check.due("read()", x.read(), 0);
        Check.due("clock()", x.clock(), 7);
    }

    private static boolean isBlank(int b) {
        return b == 9 || b == 10 || b == 13 || b == 32;
    }

    private static void blanks() {
        Check.part("with blanks (9, 10, 13, 32) between or not");
        String[] tokens = {"fact", "a", "yes", "open", ";", "witness", "w", ";", "word", "w", "self", "=", "not", "(",
            "a", "or", "a", ")", "and", "a", ";", "case", "c", "5", "=", "a", ";", "back", "(", "1", "+", "lies", ")",
            "*", "2", "/", "3", "-", "said", ";", "forth", "4", ";", "clock", "9", ";"};
        for (String between : new String[] {" ", "\t", "\n", "\r", " \t\r\n "}) {
            LieClock x = Check.court(between + String.join(between, tokens) + between);
            int[] counts = {1, 1, 1, 1, 1};
            for (int what = 0; what < 5; what++) Check.due("count(" + what + ")", x.count(what), counts[what]);
            Check.due("clock()", x.clock(), 9);
        }
        LieClock x = Check.court("fact a yes open;witness w;word w self=not(a or a)and a;case c5=a;back(1+lies)*2/3-said;"
            + "forth4;clock9;");
        Check.due("count(2)", x.count(2), 1);
        Check.due("clock()", x.clock(), 9);
        for (int b = 0; b < 256; b++) {
            String text = "clock" + (char) b + "5;";
            boolean letter = b >= 'a' && b <= 'z';
            boolean digit = b >= '0' && b <= '9';
            Check.fault(text, isBlank(b) || digit ? 0 : 1, isBlank(b) || digit ? -1 : letter ? 0 : 5);
        }
    }

    private static void longestTokens() {
        Check.part("TOKENS, the longest that can be");
        Check.fault("clockk 7;", 1, 0);
        Check.fault("factayes;", 1, 0);
        Check.fault("fact ayes;", 1, 9);
        Check.fault("fact a yesopen;", 1, 7);
        Check.fault("clock 1 2;", 1, 8);
        Check.fault(ONE + "word w=nota;", 4, 28);
        Check.fault(ONE + "word w=not a;", 0, -1);
        Check.fault(ONE + "word wself=a;", 4, 26);
        Check.fault("back lies2;", 1, 9);
        Check.due("clock() of 12", Check.court("clock 12;").clock(), 12);
    }

    private static void lettersOfNames() {
        Check.part("NAMES (letters a .. z, 8 at most)");
        String eight = "fact abcdefgh yes;witness stuvwxyz;word stuvwxyz=abcdefgh;case mmmmmmmm 1=abcdefgh;";
        Check.fault(eight, 0, -1);
        Check.fault("fact abcdefghi yes;", 1, 5);
        Check.fault("witness abcdefghi;", 1, 8);
        Check.fault("fact a yes;case abcdefghi 1=a;", 1, 16);
        Check.fault("word abcdefghi=a;", 1, 5);
        Check.fault(ONE + "word w=abcdefghi;", 1, 28);
        Check.fault(ONE + "word w=" + Check.many("a", 1900) + ";", 1, 28);
        // All eight letters tell one name from another, and so does their number.
        String last = "fact aaaaaaaa yes;fact aaaaaaab no;fact aaaaaaa yes;fact baaaaaaa no;fact a yes;fact aa no;";
        LieClock x = Check.court(last + "witness w;word w=aaaaaaab or baaaaaaa or aa;word w=aaaaaaaa and aaaaaaa and a;");
        Check.due("word(0, 2)", x.word(0, 2), 0);
        Check.due("word(1, 2)", x.word(1, 2), 1);
        Check.fault("fact aaaaaaaa yes;fact aaaaaaaa no;", 3, 23);
        Check.fault("fact a yes;fact z yes;", 0, -1);
        Check.fault("fact ` yes;", 1, 5);
        Check.fault("fact { yes;", 1, 5);
        Check.fault("fact A yes;", 1, 5);
    }

    private static void quotedWords() {
        Check.part("NAMES (.. none of the words in quotes)");
        for (String word : QUOTED) {
            Check.fault("fact " + word + " yes;", 1, 5);
            Check.fault("witness " + word + ";", 1, 8);
            Check.fault("fact a yes;case " + word + " 1=a;", 1, 16);
            Check.fault("word " + word + "=a;", 1, 5);
            if (!word.equals("not")) Check.fault(ONE + "word w=" + word + ";", 1, 28);
            String longer = word.length() < 8 ? word + "x" : "x";
            Check.fault("fact " + longer + " yes;witness w;word w=" + longer + ";", 0, -1);
            String shorter = word.equals("no") || word.equals("or") ? "xx" : word.substring(0, word.length() - 1) + "q";
            Check.fault("fact " + shorter + " yes;", 0, -1);
        }
    }

    private static void digitsOfInts() {
        Check.part("INTS (1 to 4 digits)");
        Check.due("clock() of 0", Check.court("clock 0;").clock(), 0);
        Check.due("clock() of 0000", Check.court("clock 0000;").clock(), 0);
        Check.due("clock() of 0123", Check.court("clock 0123;").clock(), 123);
        Check.due("clock() of 2345", Check.court("clock 2345;").clock(), 2345);
        Check.fault("clock 00000;", 1, 6);
        Check.fault("clock 12345;", 1, 6);
        Check.fault("fact a yes;case c 00001=a;", 1, 18);
        Check.fault("back 9999;forth 9999;", 0, -1);
        Check.fault("back 10000;", 1, 5);
        Check.fault("forth 1+99999;", 1, 8);
        Check.fault("back " + Check.many("1", 1900) + ";", 1, 5);
        // 9999 - 9990 is 9: all four digits count.
        LieClock x = Check.court(ONE + "word w self=a;forth 9999-9990;");
        x.say(0);
        Check.due("clock() by 9999-9990", x.clock(), 10);
    }

    private static void noTokens() {
        Check.part("A longer one, all else, is no TOKEN");
        for (int b = 0; b < 256; b++) {
            char c = (char) b;
            Check.fault(String.valueOf(c), isBlank(b) ? 0 : 1, isBlank(b) ? -1 : 0);
            boolean starts = isBlank(b);
            Check.fault("clock 5;" + c, starts ? 0 : 1, starts ? -1 : 8);
            boolean fits = isBlank(b) || ";=+-*/()".indexOf(c) >= 0 || b >= '0' && b <= '9';
            if (!fits && !(b >= 'a' && b <= 'z')) Check.fault("back 1" + c + ";", 1, 6);
        }
        // What is none stands at its place, also where the text would end there or has too many tokens.
        Check.fault("clock 5" + (char) 200, 1, 7);
        Check.fault("fact a yes open,", 1, 15);
    }

    private static void emptyText() {
        Check.part("text: {TELL}");
        Check.fault("", 0, -1);
        Check.fault(" ", 0, -1);
        Check.fault("\r\n\t ", 0, -1);
        Check.fault(blanks(2000), 0, -1);
        LieClock x = Check.court(ONE + "clock 5;");
        Check.due("read() of nothing", x.read(), 0);
        Check.due("clock()", x.clock(), 0);
        for (int what = 0; what < 12; what++) Check.due("count(" + what + ")", x.count(what), 0);
    }

    /** Each begin of a TELL, and behind a bar all tokens that may come next. */
    private static final String[] BEGINS = {
        "|fact witness word case back forth clock", "fact|q", "fact q|yes no", "fact q yes|open ;", "fact q no|open ;",
        "fact q yes open|;", "fact q no open|;", "witness|q", "witness q|;", "word|q", "word w|self =", "word w self|=",
        "word w =|not q (", "word w self =|not q (", "word w = not|not q (", "word w = not not|not q (",
        "word w = a|or and ;", "word w = not a|or and ;", "word w = a or|not q (", "word w = a and|not q (",
        "word w = a or a|or and ;", "word w = a and a|or and ;", "word w = (|not q (", "word w = ( a|or and )",
        "word w = ( a or a|or and )", "word w = ( a )|or and ;", "word w = ( ( a )|or and )", "case|q", "case q|9",
        "case q 9|=", "case q 9 =|not q (", "case q 9 = a|or and ;", "case q 9 = ( a|or and )", "case q 9 = a or|not q (",
        "back|9 lies said minute heard open (", "forth|9 lies said minute heard open (", "back 1|+ - * / ;",
        "forth 1|+ - * / ;", "back lies|+ - * / ;", "back said|+ - * / ;", "back minute|+ - * / ;",
        "back heard|+ - * / ;", "back open|+ - * / ;", "back 1 +|9 lies said minute heard open (",
        "back 1 -|9 lies said minute heard open (", "back 1 *|9 lies said minute heard open (",
        "back 1 /|9 lies said minute heard open (", "back 1 + 1|+ - * / ;", "back 1 * 1|+ - * / ;",
        "back (|9 lies said minute heard open (", "back ( 1|+ - * / )", "back ( 1 )|+ - * / ;",
        "back ( ( 1 )|+ - * / )", "back ( 1 + 1|+ - * / )", "clock|9", "clock 5|;"};

    private static void everyTokenBehindEveryBegin() {
        Check.part("SYNTAX: a TOKEN, or what is none, with which no text goes on");
        String told = "fact a yes;witness w;";
        String all = String.join(" ", QUOTED) + " q 9 ; = + - * / ( ) # abcdefghi 12345";
        for (String line : BEGINS) {
            String begin = told + line.substring(0, line.indexOf('|'));
            String next = " " + line.substring(line.indexOf('|') + 1) + " ";
            for (String token : all.split(" ")) {
                String text = begin + " " + token;
                if (!next.contains(" " + token + " ")) {
                    Check.fault(text, 1, begin.length() + 1);
                } else if (token.equals(";")) {
                    Check.fault(text, 0, -1);
                } else {
                    Check.fault(text, 1, text.length());
                }
            }
        }
    }

    private static void lettersByTheirPlace() {
        Check.part("LIT, ALL, COND; UNIT, PART, E: what binds more");
        LieClock x = Check.court("fact a yes;fact b no;fact c no;witness w;word w=a or b and c;word w=(a or b) and c;"
            + "word w=not a or a;word w=not(a or a);word w=not not a;word w=not b and not c or b;");
        int[] states = {5, 3, 8, 4, 4, 6};
        int[] truths = {1, 0, 1, 0, 1, 1};
        for (int w = 0; w < 6; w++) {
            Check.due("word(" + w + ", 5)", x.word(w, 5), states[w]);
            Check.due("word(" + w + ", 2)", x.word(w, 2), truths[w]);
        }
    }

    private static void numbers() {
        Check.part("are numbered each from 0 on as they stand");
        LieClock x = Check.court("witness u;fact a no;witness v;word v=a;fact b yes open;"
            + "case p 9=b;word u self=b;case q 8=a;");
        Check.due("fact(0, 0)", x.fact(0, 0), 0);
        Check.due("fact(1, 0)", x.fact(1, 0), 1);
        Check.due("fact(1, 1)", x.fact(1, 1), 1);
        Check.due("word(0, 0)", x.word(0, 0), 1);
        Check.due("word(1, 0)", x.word(1, 0), 0);
        Check.due("word(1, 1)", x.word(1, 1), 1);
        Check.due("hearing(0, 0)", x.hearing(0, 0), 9);
        Check.due("hearing(1, 0)", x.hearing(1, 0), 8);
    }

    private static void minutes() {
        Check.part("DUE: a minute 0 .. 2879; CLOCK: 0 .. 2879");
        LieClock x = Check.court("fact a yes;case p 0=a;case q 2879=a;clock 2879;");
        Check.due("hearing(0, 0)", x.hearing(0, 0), 0);
        Check.due("hearing(1, 0)", x.hearing(1, 0), 2879);
        Check.due("clock()", x.clock(), 2879);
        Check.fault("fact a yes;case p 2880=a;", 5, 18);
        Check.fault("fact a yes;case p 9999=a;", 5, 18);
        Check.fault("clock 2880;", 5, 6);
        Check.fault("clock 9999;", 5, 6);
        // The INTS of laws are no minutes.
        Check.fault("back 2880;forth 9999;", 0, -1);
    }

    private static void notTold() {
        Check.part("BACK, FORTH: laws of minutes (1 and 1 if not told), CLOCK (0)");
        LieClock x = Check.court("fact a yes;witness w;word w self=a;word w=not a;");
        Check.due("clock()", x.clock(), 0);
        x.say(0);
        Check.due("clock() by FORTH", x.clock(), 2);
        x.say(1);
        Check.due("clock() by BACK", x.clock(), 2);
        Check.due("share(0)", x.share(0), 0);
        // What an earlier text told is no more.
        x = Check.court("back 50;forth 60;clock 70;");
        Check.read(x, "fact a yes;witness w;word w self=a;word w=not a;");
        Check.due("clock()", x.clock(), 0);
        x.say(0);
        Check.due("share(0) by FORTH", x.share(0), 1);
        x.say(1);
        Check.due("share(0) by BACK", x.share(0), 0);
    }

    private static void lastTold() {
        Check.part("of several the last one told");
        LieClock x = Check.court("back 90;back 7+1;back 5;forth 80;forth 4;clock 8;clock 2000;clock 3;"
            + "fact a yes;witness w;word w self=a;word w=not a;");
        Check.due("clock()", x.clock(), 3);
        x.say(0);
        Check.due("clock() by FORTH", x.clock(), 8);
        x.say(1);
        Check.due("clock() by BACK", x.clock(), 4);
    }

    private static void placeOfEnd() {
        Check.part("its place (a byte; the text's end: its length)");
        Check.fault("fact", 1, 4);
        Check.fault("fact  \n", 1, 7);
        Check.fault("  fact a yes", 1, 12);
        Check.fault("clock 5; clock 6 ", 1, 17);
        Check.fault("\t\n#", 1, 2);
    }

    private static void firstByPlace() {
        Check.part("FAULTS of a text, the first by its place");
        Check.fault(SIX_FACTS + "fact g yes;#", 2, 66);
        Check.fault(SIX_FACTS + "#fact g yes;", 1, 66);
        Check.fault("back (((((((1+;", 2, 11);
        Check.fault("back ((((((1+;(((((((", 1, 13);
        Check.fault("clock 2880;fact a yes;fact a yes;", 5, 6);
        Check.fault("fact a yes;fact a yes;clock 2880;", 3, 16);
        Check.fault("word w=a;clock 2880;", 4, 5);
        Check.fault("clock 2880;word w=a;", 5, 6);
        Check.fault("word w=a;fact a yes;fact a yes;", 4, 5);
        Check.fault("fact a yes;case a 2880=b;", 3, 16);
        Check.fault("fact a yes;case c 2880=b;", 5, 18);
        Check.fault("fact a yes;case c 9=b or d;", 4, 20);
        Check.fault("word w=b;", 4, 5);
        Check.fault("witness w;word w=b or d;", 4, 17);
    }

    /** 399 tokens, all good, and a TELL ended. */
    private static final String TOKENS_399 = Check.many("back 1;", 133);

    /** 400 tokens, likewise. */
    private static final String TOKENS_400 = Check.many("back 1;", 130) + "fact a yes open;fact b yes open;";

    private static void tokensOfText() {
        Check.part("ROOM: a 401st TOKEN");
        Check.fault(TOKENS_399, 0, -1);
        Check.fault(TOKENS_400, 0, -1);
        Check.fault(TOKENS_400 + " \n ", 0, -1);
        Check.fault(TOKENS_400 + " clock 5;", 2, TOKENS_400.length() + 1);
        Check.fault(TOKENS_399 + "clock", 1, TOKENS_399.length() + 5);
        Check.fault(TOKENS_399 + "clock 5;", 2, TOKENS_399.length() + 6);
        Check.fault(TOKENS_399 + "back(1);", 2, TOKENS_399.length() + 4);
        Check.fault(TOKENS_399 + "fact a yes;", 2, TOKENS_399.length() + 5);
        // The 401st as each kind that can go on there: 391 tokens, and ten more.
        String begin = ONE + Check.many("back 1;", 128);
        Check.fault(begin + "word w = a or a and a ;", 0, -1);
        String[] tails = {"word w = a or a and a or a ;", "word w = a or a and a and not a ;",
            "word w = not not not not not not not a ;", "word w = a and ( a and ( ( a ) ) ) ;", "word w = a or ( ( a or a ) ) ;",
            "word w self = a or a or a or a ;", "back 1 + 1 * 1 / 1 - 1 + 1 ;", "forth ( 1 + lies + said + open ) ;",
            "clock 5 ; clock 5 ; clock 5 ; clock 5 ;", "back 1 + 1 + 1 + 1 + ( 1 ) ;", "forth 1 + 1 + 1 ; fact b yes ;"};
        for (String tail : tails) Check.fault(begin + tail, 2, begin.length() + placeOf(tail, 10));
        // As many 'not's as a text can have: 12 other tokens.
        Check.fault(ONE + "word w=" + Check.many("not ", 388) + "a;", 0, -1);
        Check.fault(ONE + "word w=" + Check.many("not ", 389) + "a;", 2, 28 + 4 * 389 + 1);
        Check.fault(ONE + "word w=" + Check.many("not ", 390) + "a;", 2, 28 + 4 * 390);
    }

    /** Where the n-th of tokens stands that have one blank between them. */
    private static int placeOf(String tokens, int n) {
        int place = 0;
        for (int i = 1; i < n; i++) place = tokens.indexOf(' ', place) + 1;
        return place;
    }

    private static void leastOfOnePlace() {
        Check.part("of one place the least");
        int end = TOKENS_400.length();
        for (String token : "yes no open self or and not lies said minute heard q 9 ; = + - * / ( ) # abcdefghi 12345".split(" ")) {
            Check.fault(TOKENS_400 + token, 1, end);
        }
        for (String token : "fact witness word case back forth clock".split(" ")) {
            Check.fault(TOKENS_400 + token, 2, end);
        }
        Check.fault(TOKENS_399 + "clock 12345;", 1, TOKENS_399.length() + 6);
        Check.fault(TOKENS_399 + "clock;", 1, TOKENS_399.length() + 5);
        // A 7th fact and the 401st token at one place are one and the same number.
        String six = SIX_FACTS + "witness w;word w=a;word w=a;" + Check.many("back 1;", 121);
        Check.fault(six, 0, -1);
        Check.fault(six + "fact g yes;", 2, six.length());
    }

    private static void seventhFact() {
        Check.part("ROOM: a 7th fact (at its first TOKEN)");
        Check.fault(SIX_FACTS, 0, -1);
        Check.fault(SIX_FACTS + "witness w;word w=a and b and c and d and e and f;case p 1=f;", 0, -1);
        Check.fault(SIX_FACTS + "fact g yes;", 2, 66);
        Check.fault(SIX_FACTS + " \tfact g no open;", 2, 68);
        Check.fault(SIX_FACTS + "fact a yes;", 2, 66);
        Check.fault(Check.many("fact a yes;", 6), 3, 16);
        Check.fault(Check.many("fact a yes;", 7), 2, 66);
        Check.fault("witness w;" + SIX_FACTS + "clock 5;fact g yes;", 2, 84);
    }

    private static void seventhWitness() {
        Check.part("ROOM: a 7th witness (at its first TOKEN)");
        String six = "witness a;witness b;witness c;witness d;witness e;witness f;";
        Check.fault(six, 0, -1);
        Check.fault(six + "fact g yes;word f=g;case p 1=g;", 0, -1);
        Check.fault(six + "witness g;", 2, 60);
        Check.fault(six + "fact g yes;witness h;", 2, 71);
        Check.fault(Check.many("witness a;", 6), 3, 18);
        Check.fault(Check.many("witness a;", 7), 2, 60);
    }

    private static void seventeenthWord() {
        Check.part("ROOM: a 17th word (at its first TOKEN)");
        String sixteen = ONE + Check.many("word w=a;", 16);
        Check.fault(sixteen, 0, -1);
        Check.due("count(2)", Check.court(sixteen).count(2), 16);
        Check.fault(sixteen + "clock 5;", 0, -1);
        Check.fault(sixteen + "word w=a;", 2, sixteen.length());
        Check.fault(sixteen + "word", 2, sixteen.length());
        Check.fault(Check.many("word w=a;", 16), 4, 5);
        Check.fault(Check.many("word w=a;", 17), 2, 144);
    }

    private static void ninthCase() {
        Check.part("ROOM: a 9th case (at its first TOKEN)");
        StringBuilder b = new StringBuilder("fact z yes;");
        for (char c = 'a'; c < 'i'; c++) b.append("case ").append(c).append(" 9=z;");
        String eight = b.toString();
        Check.fault(eight, 0, -1);
        Check.due("count(3)", Check.court(eight).count(3), 8);
        Check.fault(eight + "fact y yes;", 0, -1);
        Check.fault(eight + "case y 9=z;", 2, eight.length());
        Check.fault(eight + "case", 2, eight.length());
        Check.fault("fact z yes;" + Check.many("case p 9=z;", 8), 3, 27);
        Check.fault("fact z yes;" + Check.many("case p 9=z;", 9), 2, 99);
    }

    private static void seventhBracket() {
        Check.part("ROOM: a 7th ( within one another (at it)");
        for (String law : new String[] {"back ", "forth "}) {
            int n = law.length();
            Check.fault(law + "((((((1))))));", 0, -1);
            Check.fault(law + "(((((((1)))))));", 2, n + 6);
            Check.fault(law + "((((( (1+1) + (1+1) )))))*((((((2))))));", 0, -1);
            Check.fault(law + "1+2*(3+(4*(5+(6*(7+(8*9))))));", 0, -1);
            Check.fault(law + "1+2*(3+(4*(5+(6*(7+(8*(9)))))));", 2, n + 22);
            Check.fault(law + "((((((", 1, n + 6);
            Check.fault(law + "(((((((", 2, n + 6);
        }
        for (String cond : new String[] {ONE + "word w=", ONE + "word w self=", ONE + "case p 9="}) {
            int n = cond.length();
            Check.fault(cond + "((((((a))))));", 0, -1);
            Check.fault(cond + "(((((((a)))))));", 2, n + 6);
            Check.fault(cond + "((((((a)or(a))))))and((((((a))))));", 0, -1);
            Check.fault(cond + "not(not(not(not(not(not(not a))))));", 0, -1);
            Check.fault(cond + "not(not(not(not(not(not(not(a)))))));", 2, n + 27);
            Check.fault(cond + "a or(a and(a or(a and(a or(a and(a))))));", 0, -1);
            Check.fault(cond + "a or(a and(a or(a and(a or(a and(a or(a)))))));", 2, n + 37);
            Check.fault(cond + "(a)and(a)and(a)and(a)and(a)and(a)and(a)and(a);", 0, -1);
        }
    }

    private static void hardOnesFirst() {
        Check.part("If there is none, likewise: 3, 4, 5");
        Check.fault("fact a yes;fact a no;#", 1, 21);
        Check.fault("word w=a;fact", 1, 13);
        Check.fault("clock 2880;fact a yes", 1, 21);
        Check.fault("clock 2880;back (((((((1)))))));", 2, 22);
        Check.fault("clock 2880;" + TOKENS_400, 2, 11 + TOKENS_400.length() - 9);
        Check.fault("fact a yes;fact a no;" + SIX_FACTS, 2, 21 + 44);
    }

    private static void twice() {
        Check.part("TWICE: a NAME told already (FACTS, WITNESSES and CASES together)");
        String[] kinds = {"fact q yes;", "witness q;", "case q 9=a;"};
        int[] at = {5, 8, 5};
        for (String first : kinds) {
            for (int i = 0; i < 3; i++) {
                String begin = "fact a yes;" + first;
                Check.fault(begin + kinds[i], 3, begin.length() + at[i]);
                Check.fault(begin + "clock 5;" + kinds[i], 3, begin.length() + 8 + at[i]);
            }
        }
        // Words have no names: a witness may have many.
        Check.fault(ONE + "word w=a;word w=a;word w self=a;", 0, -1);
        // An earlier text's names are free again.
        LieClock x = Check.court("fact q yes;");
        Check.due("read() again", Check.read(x, "fact q yes;"), 0);
        Check.due("read() once more", Check.read(x, "witness q;"), 0);
    }

    private static void name() {
        Check.part("NAME: no such one told ahead (word: a WITNESS; COND: FACTS)");
        Check.fault("fact a yes;word w=a;", 4, 16);
        Check.fault("fact a yes;word w=a;witness w;", 4, 16);
        Check.fault("fact a yes;word a=a;", 4, 16);
        Check.fault("fact a yes;case p 9=a;word p=a;", 4, 27);
        Check.fault("witness w;word w=a;", 4, 17);
        Check.fault("witness w;word w=a;fact a yes;", 4, 17);
        Check.fault(ONE + "word w=a and w;", 4, 34);
        Check.fault(ONE + "case p 9=a;word w=not(a or p);", 4, 48);
        Check.fault("case p 9=a;", 4, 9);
        Check.fault("fact a yes;case p 9=p;", 4, 20);
        Check.fault("fact a yes;case p 9=a or b;", 4, 25);
        Check.fault(ONE + "word ww=a;", 4, 26);
        Check.fault(ONE + "word w=aa;", 4, 28);
        // An earlier text's names are no more.
        LieClock x = Check.court(ONE);
        Check.due("read() of another's names", Check.read(x, "fact a yes;word w=a;"), 4);
        Check.due("place()", x.place(), 16);
    }

    private static void wrong() {
        Check.part("WRONG (at the INT): a minute above 2879");
        Check.fault("clock  2880 ;", 5, 7);
        Check.fault("clock 2880;clock 1;", 5, 6);
        Check.fault("clock 1;clock 2881;", 5, 14);
        Check.fault("fact a yes;case p\n3000=a;", 5, 18);
        Check.fault("fact a yes;case p 2879=a;clock 2879;", 0, -1);
    }

    private static void faultChangesNothing() {
        Check.part("A text with a FAULT changes nothing but the tape");
        String[] faulty = {"fact b", SIX_FACTS + "fact g yes;", "clock 9;fact b yes;fact b no;", "clock 9;word x=a;",
            "fact b yes;clock 2880;"};
        for (int i = 0; i < faulty.length; i++) {
            LieClock x = Check.court("fact a yes;fact b no;witness v;witness w;word v self=a;word w=b;word w=a and not b;"
                + "case p 1=a;case q 2=b;case r 9=a;back 2+said;forth 3+minute;clock 1;");
            x.say(0);
            x.say(1);
            x.write(6);
            x.hold(1);
            long[] before = Check.shown(x);
            Check.due("read() of " + faulty[i], Check.read(x, faulty[i]), i + 1);
            Check.due("count(9)", x.count(9), 0);
            long[] now = Check.shown(x);
            now[1] = before[1];
            Check.same("a faulty read", now, before);
            // The laws, the undone things and the slot are as they were, too.
            Check.due("say(2)", x.say(2), 1);
            Check.due("clock()", x.clock(), 5);
            x.undo();
            x.undo();
            Check.due("clock()", x.clock(), 7);
            Check.due("restore(1)", x.restore(1), true);
            Check.due("clock()", x.clock(), 8);
        }
    }

    private static void inPlaceOfTheOneAhead() {
        Check.part("else it is in place of the one ahead: nothing is said, heard, undone; no BOOK, SLOTS hold nothing");
        LieClock x = Check.court("fact a yes;fact b no open;witness v;word v self=a;word v=not a;case p 1=a;back 9;"
            + "forth 9;clock 0;");
        x.say(0);
        x.say(1);
        x.look(0);
        x.write(7);
        for (int i = 0; i < 3; i++) x.hold(i);
        Check.due("read()", Check.read(x, "fact a yes;witness v;word v self=a;word v=not a;case p 1=a;"), 0);
        LieClock fresh = Check.court("fact a yes;witness v;word v self=a;word v=not a;case p 1=a;");
        Check.same("a good read", Check.shown(x), Check.shown(fresh));
        Check.due("undo()", x.undo(), false);
        for (int i = 0; i < 3; i++) Check.due("restore(" + i + ")", x.restore(i), false);
        Check.due("fits(1)", x.fits(1), -1);
        Check.due("hearing(0, 2)", x.hearing(0, 2), -2);
        Check.due("place()", x.place(), -1);
    }

    private static void nothingIsLeftOfIt() {
        Check.part("in place of the one ahead: nothing of it is left, nor of a faulty one");
        String large = SIX_FACTS + "witness u;witness v;word v self=a;word v=not a;word u=not b;word u self=b;case p 1=a;"
            + "case q 2=a;back 77;forth 88;clock 9;";
        String opened = large.replace("yes;", "yes open;");
        String small = "fact x no;fact y no;witness t;witness s;word s=x;word t=y;word s=not x;case r 5=x;";
        long[] due = Check.shown(Check.court(small));
        String[][] rows = {{large}, {large, opened}, {large, opened, large}, {opened, large + "#"}, {large, opened + "clock 2880;"},
            {opened + "fact x yes;", large + "word x=a;"}, {opened, large, opened + "#", large + "fact"}};
        for (String[] row : rows) {
            LieClock x = new LieClock();
            for (String text : row) Check.read(x, text);
            x.say(0);
            x.say(3);
            x.look(2);
            x.pause(9);
            Check.due("read()", Check.read(x, small), 0);
            Check.same("texts ahead", Check.shown(x), due);
            for (int i = 0; i < 2; i++) Check.due("share(" + i + ")", x.share(i), 0);
            x.say(0);
            x.say(2);
            // Laws that are not told are 1.
            Check.due("clock()", x.clock(), 1);
            Check.due("share(1)", x.share(1), -1);
        }
    }
}
