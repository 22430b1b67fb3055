import java.util.ArrayList;
import java.util.Arrays;
import java.util.HashMap;
import java.util.HashSet;
import java.util.List;
import java.util.Map;
import java.util.Set;

/**
 * The court told once more, as plainly as the document tells it: minute by minute, state by state, row by row.
 * It shares no code and no method with LieClock; ModelTest compares the two.
 */
final class Model {
    static final Set<String> QUOTED = new HashSet<>(Arrays.asList("fact", "yes", "no", "open", "witness", "word",
        "self", "case", "back", "forth", "clock", "or", "and", "not", "lies", "said", "minute", "heard"));

    /** A condition or an expression as a tree. */
    static final class Tree {
        final String op;
        final List<Tree> parts = new ArrayList<>();
        int number;

        Tree(String op, Tree... parts) {
            this.op = op;
            this.parts.addAll(Arrays.asList(parts));
        }
    }

    static final class Word {
        int witness;
        boolean self;
        Tree cond;
    }

    static final class Case {
        int due;
        Tree guilty;
    }

    static final class Text {
        final List<Boolean> truth = new ArrayList<>();
        final List<Boolean> open = new ArrayList<>();
        final List<String> facts = new ArrayList<>();
        final List<String> witnesses = new ArrayList<>();
        final List<String> caseNames = new ArrayList<>();
        final List<Word> words = new ArrayList<>();
        final List<Case> cases = new ArrayList<>();
        Tree back = constant(1);
        Tree forth = constant(1);
        int clock = 0;
    }

    static Tree constant(int n) {
        Tree t = new Tree("int");
        t.number = n;
        return t;
    }

    /** All that happens to a court. */
    final class Court {
        int clock;
        boolean[] said = new boolean[text.words.size()];
        boolean[] caught = new boolean[text.words.size()];
        boolean[] open = new boolean[text.facts.size()];
        int[] heard = new int[text.cases.size()];
        int[] verdict = new int[text.cases.size()];
        int[] share = new int[text.witnesses.size()];
        List<Integer> visited = new ArrayList<>();

        Court() {
            clock = text.clock;
            for (int i = 0; i < open.length; i++) open[i] = text.open.get(i);
            Arrays.fill(verdict, -2);
        }

        Court copy() {
            Court c = new Court();
            c.clock = clock;
            c.said = said.clone();
            c.caught = caught.clone();
            c.open = open.clone();
            c.heard = heard.clone();
            c.verdict = verdict.clone();
            c.share = share.clone();
            return c;
        }

        int total(boolean[] row) {
            int n = 0;
            for (boolean b : row) if (b) n++;
            return n;
        }

        int heardInAll() {
            int n = 0;
            for (int h : heard) n += h;
            return n;
        }

        List<boolean[]> mayBe() {
            List<boolean[]> all = new ArrayList<>();
            int n = text.facts.size();
            for (int bits = 0; bits < 1 << n; bits++) {
                boolean[] s = new boolean[n];
                boolean may = true;
                for (int i = 0; i < n; i++) {
                    s[i] = (bits >> i & 1) == 1;
                    if (open[i] && s[i] != text.truth.get(i)) may = false;
                }
                if (may) all.add(s);
            }
            return all;
        }

        List<boolean[]> statesOf(List<Integer> words) {
            List<boolean[]> left = new ArrayList<>();
            for (boolean[] s : mayBe()) {
                boolean all = true;
                for (int w : words) if (!holds(text.words.get(w).cond, s)) all = false;
                if (all) left.add(s);
            }
            return left;
        }

        List<Integer> live(int witness) {
            List<Integer> row = new ArrayList<>();
            for (int w = 0; w < said.length; w++) {
                if (said[w] && !caught[w] && (witness < 0 || text.words.get(w).witness == witness)) row.add(w);
            }
            return row;
        }

        int verdictNow(int c) {
            List<boolean[]> left = statesOf(live(-1));
            if (left.isEmpty()) return 3;
            int guilty = 0;
            for (boolean[] s : left) if (holds(text.cases.get(c).guilty, s)) guilty++;
            return guilty == left.size() ? 1 : guilty == 0 ? 0 : 2;
        }

        void forward(int minutes) {
            for (int m = 0; m < minutes; m++) {
                if (clock == 100000) continue;
                clock++;
                visited.add(clock);
                for (int c = 0; c < heard.length; c++) {
                    if (text.cases.get(c).due == clock) {
                        heard[c]++;
                        verdict[c] = verdictNow(c);
                    }
                }
            }
        }

        int law(Tree e, int witness) {
            Map<String, Integer> vars = new HashMap<>();
            int lies = 0;
            int told = 0;
            for (int w = 0; w < said.length; w++) {
                if (text.words.get(w).witness != witness) continue;
                if (caught[w]) lies++;
                if (said[w]) told++;
            }
            vars.put("lies", lies);
            vars.put("said", told);
            vars.put("minute", ((clock % 1440) + 1440) % 1440);
            vars.put("heard", heardInAll());
            vars.put("open", total(open));
            Integer v = value(e, vars);
            return v == null || v < 0 ? 0 : v > 120 ? 120 : v;
        }

        int examine(int witness) {
            List<Integer> row = live(witness);
            if (!statesOf(row).isEmpty()) return 0;
            int n = 0;
            for (int w : row) {
                if (isTrue(w)) continue;
                int minutes = law(text.back, witness);
                caught[w] = true;
                clock = Math.max(-100000, clock - minutes);
                share[witness] -= minutes;
                n++;
            }
            return n;
        }

        int say(int w) {
            forward(1);
            boolean before = said[w];
            if (!caught[w]) said[w] = true;
            Word word = text.words.get(w);
            boolean asked = word.self && isTrue(w) && !before;
            if (asked) {
                int minutes = law(text.forth, word.witness);
                forward(minutes);
                share[word.witness] += minutes;
            }
            if (examine(word.witness) > 0) return 1;
            return asked ? 2 : 0;
        }

        int look(int fact) {
            forward(1);
            open[fact] = true;
            int n = 0;
            for (int i = 0; i < text.witnesses.size(); i++) n += examine(i);
            return n;
        }
    }

    static boolean holds(Tree t, boolean[] state) {
        switch (t.op) {
            case "fact": return state[t.number];
            case "not": return !holds(t.parts.get(0), state);
            case "and": return holds(t.parts.get(0), state) && holds(t.parts.get(1), state);
            default: return holds(t.parts.get(0), state) || holds(t.parts.get(1), state);
        }
    }

    /** null: it divides by 0. */
    static Integer value(Tree t, Map<String, Integer> vars) {
        if (t.op.equals("int")) return t.number;
        if (vars.containsKey(t.op)) return vars.get(t.op);
        Integer l = value(t.parts.get(0), vars);
        Integer r = value(t.parts.get(1), vars);
        if (l == null || r == null) return null;
        switch (t.op) {
            case "+": return l + r;
            case "-": return l - r;
            case "*": return l * r;
            default: return r == 0 ? null : Integer.valueOf(l / r);
        }
    }

    boolean isTrue(int w) {
        boolean[] s = new boolean[text.facts.size()];
        for (int i = 0; i < s.length; i++) s[i] = text.truth.get(i);
        return holds(text.words.get(w).cond, s);
    }

    // ---- the reader

    static final class Token {
        final int place;
        final String kind;
        final String body;

        Token(int place, String kind, String body) {
            this.place = place;
            this.kind = kind;
            this.body = body;
        }
    }

    static final class Fault extends RuntimeException {
        private static final long serialVersionUID = 1L;
        final int number;
        final int place;

        Fault(int number, int place) {
            this.number = number;
            this.place = place;
        }
    }

    static List<Token> tokens(byte[] bytes) {
        List<Token> list = new ArrayList<>();
        String s = new String(bytes, java.nio.charset.StandardCharsets.ISO_8859_1);
        java.util.regex.Matcher m = java.util.regex.Pattern
            .compile("[\\t\\n\\r ]+|([a-z]+)|([0-9]+)|([;=+\\-*/()])|([\\x00-\\xff])", java.util.regex.Pattern.DOTALL)
            .matcher(s);
        while (m.find()) {
            String t = m.group();
            if (m.group(1) != null) {
                list.add(new Token(m.start(), t.length() > 8 ? "?" : QUOTED.contains(t) ? t : "NAME", t));
            } else if (m.group(2) != null) {
                list.add(new Token(m.start(), t.length() > 4 ? "?" : "INT", t));
            } else if (m.group(3) != null) {
                list.add(new Token(m.start(), t, t));
            } else if (m.group(4) != null) {
                list.add(new Token(m.start(), "?", t));
            }
        }
        list.add(new Token(bytes.length, "END", ""));
        return list;
    }

    /** Two rounds over the tokens: the first for SYNTAX and ROOM, the second for the names and minutes. */
    static final class Reader {
        final List<Token> row;
        final boolean names;
        final Text text = new Text();
        int at = 0;
        int facts = 0;
        int witnesses = 0;
        int words = 0;
        int cases = 0;
        int nest = 0;

        Reader(List<Token> row, boolean names) {
            this.row = row;
            this.names = names;
        }

        Token take(String... kinds) {
            Token t = row.get(at);
            for (String k : kinds) {
                if (k.equals(t.kind)) {
                    if (at == 400) throw new Fault(2, t.place);
                    at++;
                    return t;
                }
            }
            throw new Fault(1, t.place);
        }

        boolean sees(String kind) {
            return row.get(at).kind.equals(kind);
        }

        void readAll() {
            while (!sees("END")) {
                Token first = take("fact", "witness", "word", "case", "back", "forth", "clock");
                switch (first.kind) {
                    case "fact": room(++facts, 6, first); fact(); break;
                    case "witness": room(++witnesses, 6, first); witness(); break;
                    case "word": room(++words, 16, first); word(); break;
                    case "case": room(++cases, 8, first); aCase(); break;
                    case "back": text.back = e(); break;
                    case "forth": text.forth = e(); break;
                    default: text.clock = minute();
                }
                take(";");
            }
        }

        void room(int n, int most, Token t) {
            if (n > most) throw new Fault(2, t.place);
        }

        String fresh() {
            Token t = take("NAME");
            boolean old = text.facts.contains(t.body) || text.witnesses.contains(t.body)
                || text.caseNames.contains(t.body);
            if (names && old) throw new Fault(3, t.place);
            return t.body;
        }

        int known(List<String> list) {
            Token t = take("NAME");
            int i = list.indexOf(t.body);
            if (names && i < 0) throw new Fault(4, t.place);
            return i;
        }

        int minute() {
            Token t = take("INT");
            int n = Integer.parseInt(t.body);
            if (names && n > 2879) throw new Fault(5, t.place);
            return n;
        }

        void fact() {
            String name = fresh();
            boolean yes = take("yes", "no").kind.equals("yes");
            boolean open = sees("open");
            if (open) take("open");
            text.facts.add(name);
            text.truth.add(yes);
            text.open.add(open);
        }

        void witness() {
            text.witnesses.add(fresh());
        }

        void word() {
            Word w = new Word();
            w.witness = known(text.witnesses);
            if (sees("self")) {
                take("self");
                w.self = true;
            }
            take("=");
            w.cond = cond();
            text.words.add(w);
        }

        void aCase() {
            Case c = new Case();
            String name = fresh();
            c.due = minute();
            take("=");
            c.guilty = cond();
            text.caseNames.add(name);
            text.cases.add(c);
        }

        Tree cond() {
            Tree t = all();
            while (sees("or")) {
                take("or");
                t = new Tree("or", t, all());
            }
            return t;
        }

        Tree all() {
            Tree t = lit();
            while (sees("and")) {
                take("and");
                t = new Tree("and", t, lit());
            }
            return t;
        }

        void openNest() {
            Token t = take("(");
            if (++nest > 6) throw new Fault(2, t.place);
        }

        void closeNest() {
            take(")");
            nest--;
        }

        Tree lit() {
            if (sees("not")) {
                take("not");
                return new Tree("not", lit());
            }
            if (sees("(")) {
                openNest();
                Tree t = cond();
                closeNest();
                return t;
            }
            Tree t = new Tree("fact");
            t.number = known(text.facts);
            return t;
        }

        Tree e() {
            Tree t = part();
            while (sees("+") || sees("-")) {
                String op = take("+", "-").kind;
                t = new Tree(op, t, part());
            }
            return t;
        }

        Tree part() {
            Tree t = unit();
            while (sees("*") || sees("/")) {
                String op = take("*", "/").kind;
                t = new Tree(op, t, unit());
            }
            return t;
        }

        Tree unit() {
            if (sees("(")) {
                openNest();
                Tree t = e();
                closeNest();
                return t;
            }
            Token t = take("INT", "lies", "said", "minute", "heard", "open");
            return t.kind.equals("INT") ? constant(Integer.parseInt(t.body)) : new Tree(t.kind);
        }
    }

    // ---- the object

    Text text = new Text();
    byte[] tape = new byte[0];
    int place = -1;
    Court now = new Court();
    List<Court> past = new ArrayList<>();
    List<Integer> book = new ArrayList<>();
    Court[] slots = new Court[3];
    byte[][] slotTapes = new byte[3][];

    int feed(int... five) {
        if (tape.length + 20 > 2000) return -1;
        int n = tape.length;
        tape = Arrays.copyOf(tape, n + 20);
        for (int i = 0; i < 20; i++) tape[n + i] = (byte) (five[i / 4] >>> (24 - 8 * (i % 4)));
        return tape.length;
    }

    int back(int n) {
        if (n < 0 || n > tape.length) return -1;
        tape = Arrays.copyOf(tape, tape.length - n);
        return tape.length;
    }

    int read() {
        List<Token> row = tokens(tape);
        tape = new byte[0];
        place = -1;
        try {
            new Reader(row, false).readAll();
            Reader second = new Reader(row, true);
            second.readAll();
            text = second.text;
        } catch (Fault f) {
            place = f.place;
            return f.number;
        }
        now = new Court();
        past.clear();
        book.clear();
        slots = new Court[3];
        return 0;
    }

    boolean in(int i, int size) {
        return i >= 0 && i < size;
    }

    int fact(int f, int what) {
        if (!in(f, text.facts.size())) return -1;
        return what == 0 ? bit(text.truth.get(f)) : what == 1 ? bit(now.open[f]) : -1;
    }

    static int bit(boolean b) {
        return b ? 1 : 0;
    }

    int word(int w, int what) {
        if (!in(w, text.words.size())) return -1;
        switch (what) {
            case 0: return text.words.get(w).witness;
            case 1: return bit(text.words.get(w).self);
            case 2: return bit(isTrue(w));
            case 3: return bit(now.said[w]);
            case 4: return bit(now.caught[w]);
            case 5: {
                Court c = new Court();
                c.open = new boolean[text.facts.size()];
                return c.statesOf(Arrays.asList(w)).size();
            }
            default: return -1;
        }
    }

    int witness(int i, int what) {
        if (!in(i, text.witnesses.size())) return -1;
        int said = 0;
        int caught = 0;
        int all = 0;
        for (int w = 0; w < text.words.size(); w++) {
            if (text.words.get(w).witness != i) continue;
            all++;
            said += bit(now.said[w]);
            caught += bit(now.caught[w]);
        }
        switch (what) {
            case 0: return said;
            case 1: return caught;
            case 2: return all;
            case 3: return bit(!now.statesOf(now.live(i)).isEmpty());
            default: return -1;
        }
    }

    int share(int i) {
        return in(i, text.witnesses.size()) ? now.share[i] : -1000000;
    }

    int hearing(int c, int what) {
        if (!in(c, text.cases.size())) return -1;
        switch (what) {
            case 0: return text.cases.get(c).due;
            case 1: return now.heard[c];
            case 2: return now.verdict[c];
            case 3: return now.verdictNow(c);
            default: return -1;
        }
    }

    void keep() {
        past.add(now.copy());
        if (past.size() > 40) past.remove(0);
    }

    int say(int w) {
        if (!in(w, text.words.size())) return -1;
        keep();
        return now.say(w);
    }

    int look(int f) {
        if (!in(f, text.facts.size())) return -1;
        if (now.open[f]) return -2;
        keep();
        return now.look(f);
    }

    int pause(int n) {
        if (n < 0 || n > 3000) return -1000000;
        if (n > 0) {
            keep();
            now.forward(n);
        }
        return now.clock;
    }

    boolean undo() {
        if (past.isEmpty()) return false;
        now = past.remove(past.size() - 1);
        return true;
    }

    int would(int w) {
        if (!in(w, text.words.size())) return -1000000;
        Court c = now.copy();
        c.say(w);
        return c.clock;
    }

    /** null: no such ones; empty: not by 4. */
    List<Integer> aheadRow(int a, int b) {
        if (!in(a, text.cases.size()) || !in(b, text.cases.size()) || a == b) return null;
        for (int n = 1; n <= 4; n++) {
            List<Integer> row = aheadFrom(now, a, b, n);
            if (row != null) return row;
        }
        return new ArrayList<>();
    }

    List<Integer> aheadFrom(Court from, int a, int b, int n) {
        if (n == 0) {
            boolean ok = from.heard[a] > now.heard[a] && from.heard[b] == now.heard[b];
            return ok ? new ArrayList<>() : null;
        }
        for (int w = 0; w < text.words.size(); w++) {
            Court c = from.copy();
            c.say(w);
            List<Integer> rest = aheadFrom(c, a, b, n - 1);
            if (rest != null) {
                rest.add(0, w);
                return rest;
            }
        }
        return null;
    }

    int ahead(int a, int b, int what) {
        List<Integer> row = aheadRow(a, b);
        if (row == null || what < 0 || what > 1) return -1;
        if (row.isEmpty()) return -2;
        int lies = 0;
        for (int w : row) if (!isTrue(w)) lies++;
        return what == 0 ? row.size() : lies;
    }

    int aheadAt(int a, int b, int i) {
        List<Integer> row = aheadRow(a, b);
        if (row == null || i < 0) return -1;
        if (row.isEmpty()) return -2;
        return i < row.size() ? row.get(i) : -1;
    }

    List<Integer> members(int set) {
        List<Integer> list = new ArrayList<>();
        for (int i = 0; i < 32; i++) if ((set >>> i & 1) == 1) list.add(i);
        return list;
    }

    boolean isSet(int set) {
        for (int w : members(set)) if (w >= text.words.size()) return false;
        return true;
    }

    static List<List<Integer>> orders(List<Integer> left) {
        List<List<Integer>> all = new ArrayList<>();
        if (left.isEmpty()) {
            all.add(new ArrayList<>());
            return all;
        }
        for (int i = 0; i < left.size(); i++) {
            List<Integer> others = new ArrayList<>(left);
            others.remove(i);
            for (List<Integer> rest : orders(others)) {
                rest.add(0, left.get(i));
                all.add(rest);
            }
        }
        return all;
    }

    Court after(Court from, List<Integer> row) {
        Court c = from.copy();
        for (int w : row) c.say(w);
        return c;
    }

    List<Integer> bestOrder(int set, boolean late) {
        if (!isSet(set) || members(set).size() > 6) return null;
        List<Integer> best = null;
        int bestClock = 0;
        for (List<Integer> row : orders(members(set))) {
            int clock = after(now, row).clock;
            if (best == null || (late ? clock > bestClock : clock < bestClock)) {
                best = row;
                bestClock = clock;
            }
        }
        return best;
    }

    int order(int set, boolean late) {
        List<Integer> row = bestOrder(set, late);
        return row == null ? -1000000 : after(now, row).clock;
    }

    int orderAt(int set, boolean late, int i) {
        List<Integer> row = bestOrder(set, late);
        return row == null || !in(i, row.size()) ? -1 : row.get(i);
    }

    int never(int set, int minute) {
        if (!isSet(set) || members(set).size() > 6) return -1;
        for (List<Integer> row : orders(members(set))) {
            if (!after(now, row).visited.contains(minute)) return 1;
        }
        return 0;
    }

    int smallest() {
        int best = -2;
        for (int set = 0; set < 1 << text.words.size(); set++) {
            if (best != -2 && Integer.bitCount(set) >= Integer.bitCount(best)) continue;
            if (now.statesOf(members(set)).isEmpty()) best = set;
        }
        return best;
    }

    int states(int set) {
        return isSet(set) ? now.statesOf(members(set)).size() : -1;
    }

    int looks(int w) {
        if (!in(w, text.words.size())) return -1;
        int best = -2;
        for (int set = 0; set < 1 << text.facts.size(); set++) {
            if (best != -2 && Integer.bitCount(set) >= Integer.bitCount(best)) continue;
            Court c = now.copy();
            boolean more = true;
            for (int f : members(set)) {
                more &= !c.open[f];
                c.open[f] = true;
            }
            if (more && c.statesOf(Arrays.asList(w)).isEmpty()) best = set;
        }
        return best;
    }

    int settled(int n) {
        if (!in(n, text.cases.size())) return -1;
        int best = -2;
        for (int set = 0; set < 1 << text.words.size(); set++) {
            if (best != -2 && Integer.bitCount(set) >= Integer.bitCount(best)) continue;
            boolean allTrue = true;
            for (int w : members(set)) allTrue &= isTrue(w);
            if (!allTrue) continue;
            int guilty = 0;
            List<boolean[]> left = now.statesOf(members(set));
            for (boolean[] s : left) guilty += bit(holds(text.cases.get(n).guilty, s));
            if (guilty == 0 || guilty == left.size()) best = set;
        }
        return best;
    }

    int write(int reading) {
        if (book.size() == 5 || reading < -100000 || reading > 100000) return -1;
        book.add(reading);
        return book.size() - 1;
    }

    int burn() {
        int n = book.size();
        book.clear();
        return n;
    }

    /** The courts behind all rows that fit; null: no such k. */
    List<Court> fitting(int k) {
        if (k < 0 || k > book.size()) return null;
        List<Court> level = new ArrayList<>();
        level.add(new Court());
        for (int i = 0; i < k; i++) {
            List<Court> next = new ArrayList<>();
            for (Court c : level) {
                for (int w = 0; w < text.words.size(); w++) {
                    Court d = c.copy();
                    d.say(w);
                    if (d.clock == book.get(i)) next.add(d);
                }
            }
            level = next;
        }
        return level;
    }

    long fits(int k) {
        List<Court> all = fitting(k);
        return all == null ? -1 : all.size();
    }

    int surely(int k) {
        List<Court> all = fitting(k);
        if (all == null) return -1;
        int bits = 0;
        for (int w = 0; w < text.words.size(); w++) {
            boolean every = !all.isEmpty();
            for (Court c : all) every &= c.said[w];
            if (every) bits |= 1 << w;
        }
        return bits;
    }

    int liars(int k) {
        List<Court> all = fitting(k);
        if (all == null) return -1;
        int bits = 0;
        for (int i = 0; i < text.witnesses.size(); i++) {
            boolean every = !all.isEmpty();
            for (Court c : all) {
                boolean some = false;
                for (int w = 0; w < text.words.size(); w++) {
                    some |= c.caught[w] && text.words.get(w).witness == i;
                }
                every &= some;
            }
            if (every) bits |= 1 << i;
        }
        return bits;
    }

    boolean hold(int slot) {
        if (!in(slot, 3)) return false;
        slots[slot] = now.copy();
        slotTapes[slot] = tape.clone();
        return true;
    }

    boolean restore(int slot) {
        if (!in(slot, 3) || slots[slot] == null) return false;
        now = slots[slot].copy();
        tape = slotTapes[slot].clone();
        past.clear();
        return true;
    }

    int count(int what) {
        switch (what) {
            case 0: return text.facts.size();
            case 1: return text.witnesses.size();
            case 2: return text.words.size();
            case 3: return text.cases.size();
            case 4: return now.total(now.open);
            case 5: return now.total(now.said);
            case 6: return now.total(now.caught);
            case 7: return now.heardInAll();
            case 8: return book.size();
            case 9: return tape.length;
            case 10: return past.size();
            case 11: return bit(slots[0] != null) + bit(slots[1] != null) + bit(slots[2] != null);
            default: return -1;
        }
    }
}
