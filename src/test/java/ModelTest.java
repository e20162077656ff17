import java.util.ArrayList;
import java.util.Arrays;
import java.util.HashMap;
import java.util.List;
import java.util.Map;
import java.util.Random;

/**
 * Long runs of drawn calls, answered by the class and by a second, slow town that is written from
 * the document alone: texts become trees, every plan is found by trying all there is.
 */
public final class ModelTest {
    static final int NONE = -1;
    static final int NOTHING = -1000;
    static final Map<String, Integer> SEEN = new java.util.TreeMap<>();

    static final class Broken extends RuntimeException { Broken() { super(null, null, false, false); } }

    static final class Fault extends RuntimeException {
        final int place;
        Fault(int place) { super(null, null, false, false); this.place = place; }
    }

    interface Sum { long of(Map<String, Integer> words); }
    interface Test { boolean of(Map<String, Integer> words); }

    static final class Clause {
        String verb;
        Sum first;
        Sum second;
        int times = 1;
        Test test;
    }

    /** A recursive reader over the text itself, a token at a time. */
    static final class TextReader {
        final String text;
        final boolean orders;
        final List<String> tokens = new ArrayList<>();
        final List<Integer> places = new ArrayList<>();
        int at = 0;
        int parts = 0;

        TextReader(String text, boolean orders) {
            this.text = text;
            this.orders = orders;
            java.util.regex.Matcher m = java.util.regex.Pattern.compile("[a-z]+|[0-9]+|[^ ]", java.util.regex.Pattern.DOTALL).matcher(text);
            while (m.find()) { tokens.add(m.group()); places.add(m.start()); }
        }

        String peek() { return at < tokens.size() ? tokens.get(at) : ""; }
        Fault fault() { return new Fault(at < tokens.size() ? places.get(at) : text.length()); }
        boolean take(String token) { if (peek().equals(token)) { at++; return true; } return false; }
        void need(String token) { if (!take(token)) throw fault(); }
        boolean isNumber() { return !peek().isEmpty() && peek().chars().allMatch(c -> c >= '0' && c <= '9'); }

        int number(int low, int high) {
            if (!isNumber()) throw fault();
            java.math.BigInteger v = new java.math.BigInteger(peek());
            if (v.compareTo(java.math.BigInteger.valueOf(low)) < 0 || v.compareTo(java.math.BigInteger.valueOf(high)) > 0) throw fault();
            at++;
            return v.intValue();
        }

        List<Clause> read() {
            List<Clause> clauses = new ArrayList<>();
            do {
                if (clauses.size() == 12) throw fault();
                clauses.add(clause());
            } while (take(";"));
            if (at < tokens.size()) throw fault();
            return clauses;
        }

        Clause clause() {
            Clause c = new Clause();
            c.verb = peek();
            List<String> verbs = orders ? Arrays.asList("feed", "hand", "hem", "button", "quarter")
                    : Arrays.asList("grows", "widens", "cloth", "pays", "bars");
            if (!verbs.contains(c.verb)) throw fault();
            at++;
            if (!c.verb.equals("bars") && !c.verb.equals("quarter")) c.first = sum(0);
            if (c.verb.equals("feed")) { need("by"); c.second = sum(0); }
            if (c.verb.equals("hand")) { need("to"); c.second = sum(0); }
            if (orders && take("times")) c.times = number(1, 20);
            if (take("if")) c.test = test(0);
            return c;
        }

        Test test(int depth) {
            Test left = both(depth);
            while (take("or")) { Test a = left; Test b = both(depth); left = w -> a.of(w) || b.of(w); }
            return left;
        }

        Test both(int depth) {
            Test left = plain(depth);
            while (take("and")) { Test a = left; Test b = plain(depth); left = w -> a.of(w) && b.of(w); }
            return left;
        }

        Test plain(int depth) {
            if (take("not")) { Test a = plain(depth); return w -> !a.of(w); }
            if (peek().equals("(")) {
                if (depth == 8) throw fault();
                at++;
                Test a = test(depth + 1);
                need(")");
                return a;
            }
            Sum left = sum(depth);
            String sign = peek();
            if (!sign.equals("<") && !sign.equals(">") && !sign.equals("=")) throw fault();
            at++;
            Sum right = sum(depth);
            return w -> {
                long l = left.of(w);
                long r = right.of(w);
                return sign.equals("<") ? l < r : sign.equals(">") ? l > r : l == r;
            };
        }

        static long bounded(long v) {
            if (Math.abs(v) > 1000000000L) throw new Broken();
            return v;
        }

        Sum sum(int depth) {
            Sum left = term(depth);
            while (peek().equals("+") || peek().equals("-")) {
                boolean plus = peek().equals("+");
                at++;
                Sum a = left;
                Sum b = term(depth);
                left = w -> { long l = a.of(w); long r = b.of(w); return bounded(plus ? l + r : l - r); };
            }
            return left;
        }

        Sum term(int depth) {
            Sum left = part(depth);
            while (peek().equals("*") || peek().equals("/") || peek().equals("%")) {
                String sign = peek();
                at++;
                Sum a = left;
                Sum b = part(depth);
                left = w -> {
                    long l = a.of(w);
                    long r = b.of(w);
                    if (sign.equals("*")) return bounded(l * r);
                    if (r == 0) throw new Broken();
                    return sign.equals("/") ? l / r : l % r;
                };
            }
            return left;
        }

        Sum part(int depth) {
            if (peek().equals("[")) {
                if (depth == 8) throw fault();
                at++;
                Sum a = sum(depth + 1);
                need("]");
                return a;
            }
            if (isNumber()) {
                if (parts == 50) throw fault();
                int v = number(0, 1000);
                parts++;
                return w -> v;
            }
            List<String> words = orders ? Arrays.asList("now", "done", "paid", "long", "wide")
                    : Arrays.asList("person", "age", "fed", "long", "wide", "tailor", "quarter", "mood");
            String word = peek();
            if (!words.contains(word) || parts == 50) throw fault();
            at++;
            parts++;
            String name = orders && (word.equals("long") || word.equals("wide")) ? word + number(0, 7) : word;
            return w -> w.get(name);
        }
    }

    /** All that an image keeps, copied whole each time. */
    static final class Whole implements Cloneable {
        List<int[]> people = new ArrayList<>();   // age, long, wide, fed
        List<int[]> coats = new ArrayList<>();    // long, wide, first, second, wearer, hems, buttons, paid
        int[] cloth = new int[4];
        long[] purse = new long[4];
        int now;
        int feasts = 3;
        int mood;
        List<List<Clause>> laws = new ArrayList<>();
        int force = NONE;
        List<int[]> sights = new ArrayList<>();

        Whole copy() {
            Whole c = new Whole();
            for (int[] p : people) c.people.add(p.clone());
            for (int[] p : coats) c.coats.add(p.clone());
            c.cloth = cloth.clone();
            c.purse = purse.clone();
            c.now = now;
            c.feasts = feasts;
            c.mood = mood;
            c.laws = new ArrayList<>(laws);
            c.force = force;
            c.sights = new ArrayList<>(sights);
            return c;
        }

        List<Clause> clauses() { return force == NONE ? new ArrayList<>() : laws.get(force); }

        /** The told value, or null. */
        Long tells(String verb, int[] one, int number, int length, int width, int tailor) {
            Map<String, Integer> w = new HashMap<>();
            w.put("person", number);
            w.put("age", one[0]);
            w.put("fed", one[3]);
            w.put("long", length);
            w.put("wide", width);
            w.put("tailor", tailor);
            w.put("quarter", now % 4);
            w.put("mood", mood);
            Long told = null;
            for (Clause c : clauses()) {
                if (!c.verb.equals(verb)) continue;
                try {
                    if (c.test != null && !c.test.of(w)) continue;
                    told = c.first == null ? 1L : c.first.of(w);
                } catch (Broken b) {
                    // it does not hold
                }
            }
            return told;
        }

        static int near(long v, int low, int high) { return (int) Math.max(low, Math.min(high, v)); }

        int grows(int p) {
            int[] o = people.get(p);
            Long t = tells("grows", o, p, o[1], o[2], -1);
            return t == null ? (o[0] < 64 ? 1 : 0) : near(t, 0, 9);
        }

        int widens(int p) {
            int[] o = people.get(p);
            Long t = tells("widens", o, p, o[1], o[2], -1);
            return t == null ? o[3] : near(t, -9, 9);
        }

        int takes(int p, int tailor, int length, int width) {
            Long t = tells("cloth", people.get(p), p, length, width, tailor);
            return t == null ? length * width / 50 : near(t, 0, 999);
        }

        int pays(int p, int tailor, int length, int width) {
            Long t = tells("pays", people.get(p), p, length, width, tailor);
            return t == null ? 20 : near(t, 0, 999);
        }

        boolean barred(int p, int tailor, int length, int width) {
            return tells("bars", people.get(p), p, length, width, tailor) != null;
        }

        boolean fits(int p, int length, int width) {
            return people.get(p)[1] <= length && people.get(p)[2] <= width;
        }

        void grow() {
            int[] g = new int[8];
            int[] w = new int[8];
            for (int p = 0; p < people.size(); p++) { g[p] = grows(p); w[p] = widens(p); }
            for (int p = 0; p < people.size(); p++) {
                int[] o = people.get(p);
                o[0] = Math.min(999, o[0] + 1);
                o[1] = near(o[1] + g[p], 20, 250);
                o[2] = near(o[2] + w[p], 5, 200);
            }
            now++;
        }

        int pay(int[] c) {
            int v = pays(c[4], c[2], c[0], c[1]);
            purse[c[2]] += v - v / 2;
            purse[c[3]] += v / 2;
            c[4] = NONE;
            c[7]++;
            return v;
        }

        int settle() {
            int total = 0;
            for (int[] c : coats) if (c[4] != NONE && !fits(c[4], c[0], c[1])) total += pay(c);
            return total;
        }

        int quarter() { grow(); return settle(); }
    }

    static final class Model {
        Whole t = new Whole();
        List<Whole> past = new ArrayList<>();
        List<Integer> acts = new ArrayList<>();
        Whole[] images = new Whole[2];
        StringBuilder tape = new StringBuilder();
        int moths = 0;
        int fault = NONE;
        int stopped = NONE;
        int status = 0;
        int[] refused = new int[7];
        int[] drawnWide;
        long[] drawnGot;

        int ok(int v) { status = 0; return v; }
        int no(int v) { status = v; refused[-v]++; return v; }
        boolean p(int k) { return k >= 0 && k < t.people.size(); }
        boolean c(int k) { return k >= 0 && k < t.coats.size(); }
        static boolean in(int v, int a, int b) { return v >= a && v <= b; }
        void forgetPast() { past.clear(); acts.clear(); }

        void remember(int act) {
            past.add(t.copy());
            acts.add(act);
        }

        void trim() { while (past.size() > 16) { past.remove(0); acts.remove(0); } }

        int person(int age, int size, int wide) {
            if (!in(age, 0, 999) || !in(size, 20, 250) || !in(wide, 5, 200)) return no(-1);
            if (t.people.size() == 8) return no(-5);
            t.people.add(new int[] {age, size, wide, 0});
            forgetPast();
            return ok(t.people.size() - 1);
        }

        int of(int k, int what) {
            if (!p(k) || !in(what, 0, 6)) return NOTHING;
            if (what < 4) return t.people.get(k)[what];
            if (what == 4) return t.grows(k);
            if (what == 5) return t.widens(k);
            int n = 0;
            for (int[] c : t.coats) if (c[4] == k) n++;
            return n;
        }

        int doNourish(int k, long v) {
            if (v < -3 || v > 3) return -1;
            if (!p(k)) return -2;
            t.people.get(k)[3] = (int) v;
            return 0;
        }

        int judged(int v) { return v < 0 ? no(v) : ok(v); }
        int nourish(int k, int v) { return judged(doNourish(k, v)); }

        int bale(int k, int v) {
            if (!in(k, 0, 3) || !in(v, 0, 999)) return no(-1);
            int was = t.cloth[k];
            t.cloth[k] = v;
            forgetPast();
            return ok(was);
        }

        int tailor(int k, int what) {
            if (!in(k, 0, 3) || !in(what, 0, 2)) return NONE;
            if (what == 0) return t.cloth[k];
            if (what == 1) return (int) t.purse[k];
            Whole w = t.copy();
            for (int[] c : w.coats) if (c[4] != NONE) w.pay(c);
            return (int) (w.purse[k] - t.purse[k]);
        }

        int terms(int what, int v) {
            if (!in(what, 0, 2) || !in(v, 0, what == 0 ? 999 : what == 1 ? 10 : 9)) return no(-1);
            int was = what == 0 ? t.now : what == 1 ? t.feasts : t.mood;
            if (what == 0) t.now = v; else if (what == 1) t.feasts = v; else t.mood = v;
            forgetPast();
            return ok(was);
        }

        int feed(int... n) {
            if (tape.length() + 20 > 400) return NONE;
            for (int v : n) for (int s = 24; s >= 0; s -= 8) tape.append((char) (v >> s & 255));
            return tape.length();
        }

        int end(int n) {
            if (!in(n, 0, tape.length())) return NONE;
            tape.setLength(n);
            return n;
        }

        String takeTape() { String s = tape.toString(); tape.setLength(0); return s; }

        int row() {
            if (tape.length() == 0) return no(-6);
            String s = takeTape();
            moths = 0;
            int came = 0;
            for (int i = 0; i < s.length(); i += 3) {
                if (i + 2 >= s.length() || t.people.size() == 8 || !in(s.charAt(i + 1), 20, 250) || !in(s.charAt(i + 2), 5, 200)) {
                    moths++;
                } else {
                    t.people.add(new int[] {s.charAt(i), s.charAt(i + 1), s.charAt(i + 2), 0});
                    came++;
                }
            }
            forgetPast();
            return ok(came);
        }

        int law() {
            String s = takeTape();
            if (t.laws.size() == 6) return no(-5);
            try {
                t.laws.add(new TextReader(s, false).read());
                fault = NONE;
                return ok(t.laws.size() - 1);
            } catch (Fault f) {
                fault = f.place;
                return no(-6);
            }
        }

        int orders() {
            String s = takeTape();
            stopped = NONE;
            List<Clause> clauses;
            try {
                clauses = new TextReader(s, true).read();
                fault = NONE;
            } catch (Fault f) {
                fault = f.place;
                return no(-6);
            }
            Whole before = t.copy();
            List<Whole> pastBefore = new ArrayList<>(past);
            List<Integer> actsBefore = new ArrayList<>(acts);
            int done = 0;
            int paid = 0;
            for (int i = 0; i < clauses.size(); i++) {
                Clause c = clauses.get(i);
                for (int k = 0; k < c.times; k++) {
                    Map<String, Integer> w = new HashMap<>();
                    w.put("now", t.now);
                    w.put("done", done);
                    w.put("paid", paid);
                    for (int q = 0; q < 8; q++) {
                        w.put("long" + q, p(q) ? t.people.get(q)[1] : -1);
                        w.put("wide" + q, p(q) ? t.people.get(q)[2] : -1);
                    }
                    boolean run;
                    try { run = c.test == null || c.test.of(w); } catch (Broken b) { run = false; }
                    if (!run) continue;
                    int got;
                    try {
                        int a = c.first == null ? 0 : (int) c.first.of(w);
                        int b = c.second == null ? 0 : (int) c.second.of(w);
                        got = c.verb.equals("feed") ? doNourish(a, b) : c.verb.equals("hand") ? doHand(a, b)
                                : c.verb.equals("hem") ? doLet(a, 0) : c.verb.equals("button") ? doLet(a, 1) : doQuarter();
                    } catch (Broken b) {
                        got = -3;
                    }
                    if (got < 0) {
                        stopped = i;
                        t = before;
                        past = pastBefore;
                        acts = actsBefore;
                        return no(-3);
                    }
                    if (c.verb.equals("hand") || c.verb.equals("quarter")) paid += got;
                    done++;
                }
            }
            trim();
            return ok(done);
        }

        int force(int k) {
            if (k < -1 || k >= t.laws.size()) return no(-2);
            int was = t.force;
            t.force = k;
            return ok(was);
        }

        int asks(int k, int tailor, int size, int wide, int what) {
            if (!p(k) || !in(tailor, 0, 3) || !in(size, 20, 300) || !in(wide, 5, 250) || !in(what, 0, 3)) return NONE;
            if (what == 0) return t.takes(k, tailor, size, wide);
            if (what == 1) return t.pays(k, tailor, size, wide);
            if (what == 2) return t.barred(k, tailor, size, wide) ? 1 : 0;
            return t.fits(k, size, wide) ? 1 : 0;
        }

        int sew(int a, int b, int k, int size, int wide) {
            if (!in(a, 0, 3) || !in(b, 0, 3) || !in(size, 20, 300) || !in(wide, 5, 250)) return no(-1);
            if (!p(k)) return no(-2);
            if (!t.fits(k, size, wide) || t.barred(k, a, size, wide) || t.takes(k, a, size, wide) > t.cloth[a]) return no(-3);
            if (t.coats.size() == 10) return no(-5);
            remember(0);
            trim();
            t.cloth[a] -= t.takes(k, a, size, wide);
            t.coats.add(new int[] {size, wide, a, b, k, 2, 3, 0});
            return ok(t.coats.size() - 1);
        }

        int coat(int k, int what) {
            if (!c(k) || !in(what, 0, 8)) return NONE;
            int[] c = t.coats.get(k);
            if (what < 8) return c[what];
            return c[4] == NONE ? NONE : t.pays(c[4], c[2], c[0], c[1]);
        }

        int doLet(int k, int what) {
            if (!in(what, 0, 1)) return -1;
            if (!c(k)) return -2;
            if (t.coats.get(k)[5 + what] == 0) return -3;
            remember(1);
            int[] c = t.coats.get(k);
            c[5 + what]--;
            c[what] += 2 - what;
            return c[what];
        }

        int let(int k, int what) { int v = doLet(k, what); trim(); return judged(v); }

        int doQuarter() {
            if (t.now == 999) return -3;
            remember(2);
            return t.quarter();
        }

        int quarter() { int v = doQuarter(); trim(); return judged(v); }

        int doHand(int k, int q) {
            if (!c(k) || !p(q)) return -2;
            if (t.coats.get(k)[4] != NONE) return -3;
            remember(3);
            t.coats.get(k)[4] = q;
            return t.fits(q, t.coats.get(k)[0], t.coats.get(k)[1]) ? 0 : t.pay(t.coats.get(k));
        }

        int hand(int k, int q) { int v = doHand(k, q); trim(); return judged(v); }

        int undo() {
            if (past.isEmpty()) return no(-3);
            Whole was = past.remove(past.size() - 1);
            t.people = was.people;
            t.coats = was.coats;
            t.cloth = was.cloth;
            t.purse = was.purse;
            t.now = was.now;
            return ok(acts.remove(acts.size() - 1));
        }

        int will(int k, int n, int what) {
            if (!p(k) || !in(n, 0, 80) || !in(what, 0, 2)) return NONE;
            Whole w = t.copy();
            for (int i = 0; i < n; i++) w.grow();
            return w.people.get(k)[what];
        }

        int due(int k) {
            if (!c(k) || t.coats.get(k)[4] == NONE) return NONE;
            int[] c = t.coats.get(k);
            return dueOn(t.copy(), c[4], c[0], c[1], 80);
        }

        /** Leaves the paper as it is then. */
        static int dueOn(Whole w, int wearer, int size, int wide, int n) {
            for (int i = 1; i <= n; i++) {
                w.grow();
                if (!w.fits(wearer, size, wide)) return i;
            }
            return NONE;
        }

        int falls(int k, int n) {
            if (!in(k, 0, 3) || !in(n, 0, 80)) return NONE;
            Whole w = t.copy();
            for (int i = 0; i < n; i++) w.quarter();
            return (int) (w.purse[k] - t.purse[k]);
        }

        long odds(int k, int wide, int n) {
            if (!p(k) || !in(n, 0, 12)) return NONE;
            long v = 0;
            for (Map.Entry<Integer, Long> e : spread(k, n).entrySet()) if (e.getKey() >= wide) v += e.getValue();
            for (int i = n; i < 12; i++) v *= 10;
            return v;
        }

        Map<Integer, Long> spread(int k, int n) {
            Map<Integer, Long> now = new HashMap<>();
            now.put(t.people.get(k)[2], 1L);
            Whole w = t.copy();
            for (int i = 0; i < n; i++) {
                Map<Integer, Long> next = new HashMap<>();
                int[] o = w.people.get(k);
                int own = o[2];
                for (Map.Entry<Integer, Long> e : now.entrySet()) {
                    o[2] = e.getKey();
                    int then = Whole.near(o[2] + w.widens(k), 5, 200);
                    next.merge(then, e.getValue() * (10 - t.feasts), Long::sum);
                    next.merge(Math.min(200, then + 1), e.getValue() * t.feasts, Long::sum);
                }
                o[2] = own;
                now = next;
                w.grow();
            }
            return now;
        }

        // cutting, by all rows there are
        int cutBest;
        int cutCloth;
        int[] cutRow;
        int[][] cutCosts;
        int[][] cutPays;

        int cutting(int k, int n, int what) {
            if (!in(k, 0, 3) || !in(n, 1, 40) || !in(what, 0, 1 + t.people.size())) return NONE;
            int people = t.people.size();
            cutCosts = new int[people][16];
            cutPays = new int[people][16];
            for (int q = 0; q < people; q++) {
                for (int o = 0; o < 16; o++) {
                    int size = t.people.get(q)[1] + o / 4;
                    int wide = t.people.get(q)[2] + o % 4;
                    cutCosts[q][o] = t.barred(q, k, size, wide) ? 100000 : t.takes(q, k, size, wide);
                    Whole w = t.copy();
                    cutPays[q][o] = dueOn(w, q, size, wide, n) == NONE ? 0 : w.pays(q, k, size, wide);
                }
            }
            cutBest = -1;
            cutRow = null;
            tryRows(0, t.cloth[k], 0, new int[people], t.cloth[k]);
            return what == 0 ? cutBest : what == 1 ? cutCloth : cutRow[what - 2];
        }

        void tryRows(int q, int left, int pay, int[] row, int all) {
            if (q == row.length) {
                if (pay > cutBest) { cutBest = pay; cutRow = row.clone(); cutCloth = all - left; }
                return;
            }
            for (int o = 0; o < 16; o++) {
                if (cutCosts[q][o] <= left) {
                    row[q] = o;
                    tryRows(q + 1, left - cutCosts[q][o], pay + cutPays[q][o], row, all);
                }
            }
            row[q] = 100;
            tryRows(q + 1, left, pay, row, all);
        }

        int dress(int k, int n, int i) {
            if (!p(k) || !in(n, 0, 24) || !in(i, -1, n)) return NONE;
            Whole[] at = new Whole[n + 1];
            at[0] = t.copy();
            for (int j = 1; j <= n; j++) { at[j] = at[j - 1].copy(); at[j].grow(); }
            long best = Long.MAX_VALUE;
            int bestRow = 0;
            // rows in order: 1 ahead of 0, the first end the most weighty
            for (int row = (1 << n) - 1; row >= 0; row--) {
                long all = 0;
                int cut = 0;
                for (int j = 1; j <= n + 1; j++) {
                    if (j == n + 1 || (row >> (n - j) & 1) == 1) {
                        int size = 0;
                        int wide = 0;
                        for (int m = cut; m < j; m++) {
                            size = Math.max(size, at[m].people.get(k)[1]);
                            wide = Math.max(wide, at[m].people.get(k)[2]);
                        }
                        all += at[cut].takes(k, -1, size, wide);
                        cut = j;
                    }
                }
                if (all < best) { best = all; bestRow = row; }
            }
            return i == NONE ? (int) best : i == 0 ? 1 : bestRow >> (n - i) & 1;
        }

        int game(int k, int n, int what) {
            if (!c(k) || !in(n, 1, 8) || !in(what, 0, 1) || t.coats.get(k)[4] == NONE) return NONE;
            int[] c = t.coats.get(k);
            int best = -1;
            int food = 0;
            for (int f = -1; f <= 1; f++) {
                int v = after(t, c, f, 1, n);
                if (v > best) { best = v; food = f; }
            }
            return what == 0 ? best : food + 1;
        }

        static int after(Whole before, int[] c, int food, int k, int n) {
            Whole w = before.copy();
            w.people.get(c[4])[3] = food;
            w.grow();
            if (!w.fits(c[4], c[0], c[1])) return k;
            if (k == n) return n + 1;
            int a = after(w, c, -1, k + 1, n);
            int b = after(w, c, 0, k + 1, n);
            int d = after(w, c, 1, k + 1, n);
            return (k + 1) % 2 == 1 ? Math.max(a, Math.max(b, d)) : Math.min(a, Math.min(b, d));
        }

        int fed(int k, int n, int wide) {
            if (!p(k) || !in(n, 0, 40)) return NONE;
            int bits = 0;
            for (int f = -3; f <= 3; f++) {
                Whole w = t.copy();
                w.people.get(k)[3] = f;
                for (int i = 0; i < n; i++) w.grow();
                if (w.people.get(k)[2] == wide) bits += 1 << (f + 3);
            }
            return bits;
        }

        int sight(int k, int q, int wide) {
            if (!in(k, 1, 40) || !in(wide, 5, 200)) return no(-1);
            if (!p(q)) return no(-2);
            if (t.sights.size() == 6) return no(-5);
            t.sights.add(new int[] {k, q, wide});
            return ok(t.sights.size());
        }

        int forget() { int n = t.sights.size(); t.sights.clear(); return n; }

        int hidden(int i) {
            List<Integer> found = new ArrayList<>();
            for (int q = 1; q <= 20; q++) {
                for (int k = 0; k < t.people.size(); k++) {
                    Whole w = t.copy();
                    boolean so = true;
                    for (int j = 1; j <= 40; j++) {
                        w.grow();
                        int[] o = w.people.get(k);
                        if (j == q) o[2] = Math.min(200, o[2] + 1);
                        for (int[] s : t.sights) if (s[0] == j && w.people.get(s[1])[2] != s[2]) so = false;
                    }
                    if (so) found.add((q - 1) * 8 + k);
                }
            }
            return i == NONE ? found.size() : in(i, 0, found.size() - 1) ? found.get(i) : NONE;
        }

        int years(int seed, int n) {
            if (!in(seed, 0, 1000000) || !in(n, 1, 80)) return no(-1);
            Whole w = t.copy();
            long s = seed;
            int paid = 0;
            for (int i = 0; i < n; i++) {
                w.grow();
                for (int[] o : w.people) {
                    s = (s * 1103 + 12345) % 1000003;
                    if (s % 10 < w.feasts) o[2] = Math.min(200, o[2] + 1);
                }
                paid += w.settle();
            }
            drawnWide = new int[w.people.size()];
            for (int k = 0; k < drawnWide.length; k++) drawnWide[k] = w.people.get(k)[2];
            drawnGot = new long[4];
            for (int k = 0; k < 4; k++) drawnGot[k] = w.purse[k] - t.purse[k];
            return ok(paid);
        }

        int drawn(int k, int what) {
            if (drawnWide == null || !in(what, 0, 1) || !in(k, 0, what == 0 ? drawnWide.length - 1 : 3)) return NONE;
            return what == 0 ? drawnWide[k] : (int) drawnGot[k];
        }

        int image(int k) {
            if (!in(k, 0, 1)) return no(-1);
            images[k] = t.copy();
            return ok(0);
        }

        int back(int k) {
            if (!in(k, 0, 1)) return no(-1);
            if (images[k] == null) return no(-2);
            t = images[k].copy();
            forgetPast();
            return ok(0);
        }

        int count(int what) {
            switch (what) {
                case 0: return t.people.size();
                case 1: return t.coats.size();
                case 2: return t.sights.size();
                case 3: return t.laws.size();
                case 4: return past.size();
                case 5: return tape.length();
                case 6: case 7: case 8: return refused[what - 5];
                case 9: case 10: return refused[what - 4];
                case 11: return t.force;
                case 12: return t.now;
                case 13: return t.feasts;
                case 14: return t.mood;
                default: return NONE;
            }
        }
    }

    // ---- drawing calls ----

    static final class Runner {
        final Random r;
        final OutgrownCoats x = new OutgrownCoats();
        final Model m = new Model();
        final List<String> log = new ArrayList<>();
        int calls = 0;

        Runner(long seed) { r = new Random(seed); }

        void same(String call, long got, long want) {
            calls++;
            log.add(call + " -> " + got);
            if (System.getProperty("seen") != null) SEEN.merge(call.replaceAll("\\W.*", "") + (got < 0 ? " " + got : got == 0 ? " 0" : " more"), 1, Integer::sum);
            if (got != want) {
                for (int i = Math.max(0, log.size() - 60); i < log.size(); i++) System.out.println("  " + log.get(i));
                throw new IllegalStateException(call + " answered " + got + ", due is " + want);
            }
        }

        int d(int n) { return r.nextInt(n); }

        /** Mostly within, now and then at the edges, beyond them, or far off. */
        int pick(int low, int high) {
            int k = d(40);
            if (k == 0) return low - 1;
            if (k == 1) return high + 1;
            if (k == 2) return low;
            if (k == 3) return high;
            if (k == 4) return new int[] {Integer.MIN_VALUE, Integer.MAX_VALUE, -1, 0, 1000000007}[d(5)];
            return low + d(high - low + 1);
        }

        int somebody() { return d(12) == 0 ? pick(0, 8) : d(Math.max(1, m.t.people.size())); }
        int someCoat() { return d(12) == 0 ? pick(0, 10) : d(Math.max(1, m.t.coats.size())); }

        String[] of(String... s) { return s; }
        String any(String... s) { return s[d(s.length)]; }

        String part(boolean orders, int depth) {
            int k = d(10);
            if (k < 4) return "" + (d(6) == 0 ? d(1002) : d(12));
            if (k == 4 && depth < 9) return "[" + sum(orders, depth + 1) + "]";
            if (orders) return any("now", "done", "paid", "long " + d(8), "wide " + d(3), "long " + d(3));
            return any("person", "age", "fed", "long", "wide", "tailor", "quarter", "mood");
        }

        String term(boolean orders, int depth) {
            StringBuilder s = new StringBuilder(part(orders, depth));
            while (d(5) == 0) s.append(any("*", "/", "%", " * ", " / ")).append(part(orders, depth));
            return s.toString();
        }

        String sum(boolean orders, int depth) {
            StringBuilder s = new StringBuilder(term(orders, depth));
            while (d(4) == 0) s.append(any("+", "-", " - ")).append(term(orders, depth));
            return s.toString();
        }

        String plain(boolean orders, int depth) {
            int k = d(10);
            if (k == 0) return "not " + plain(orders, depth);
            if (k == 1 && depth < 9) return "(" + test(orders, depth + 1) + ")";
            return sum(orders, depth) + any("<", ">", "=", " < ", " > ") + sum(orders, depth);
        }

        String both(boolean orders, int depth) {
            StringBuilder s = new StringBuilder(plain(orders, depth));
            while (d(5) == 0) s.append(" and ").append(plain(orders, depth));
            return s.toString();
        }

        String test(boolean orders, int depth) {
            StringBuilder s = new StringBuilder(both(orders, depth));
            while (d(5) == 0) s.append(" or ").append(both(orders, depth));
            return s.toString();
        }

        String lawClause() {
            String s;
            switch (d(7)) {
                case 0: s = "grows " + any("quarter", "1", "2 - age/30", sum(false, 0)); break;
                case 1: s = "widens " + any("fed", "fed+quarter-1", "1 - wide%3", "[long - wide]%3", sum(false, 0)); break;
                case 2: s = "cloth " + any("long+wide", "10", "long*wide/100", "wide * [quarter+1]", sum(false, 0)); break;
                case 3: s = "pays " + any("long-wide", "age*3", "wide*2-20", "tailor*100+7", sum(false, 0)); break;
                case 4: s = "bars if person=" + d(4) + " and tailor=" + d(3); return s;
                case 5: s = any("bars", "grows 9", "widens fed", "cloth " + d(50), "pays " + d(200)); break;
                default: s = any("grows ", "widens ", "cloth ", "pays ") + sum(false, 0);
            }
            if (s.equals("bars") || d(2) == 0) s += " if " + test(false, 0);
            return s;
        }

        String orderClause() {
            String s;
            switch (d(6)) {
                case 0: s = "feed " + d(3) + " by " + any("1", "0", "0-1", "3", sum(true, 0)); break;
                case 1: s = "hand " + d(3) + " to " + any("0", "1", sum(true, 0)); break;
                case 2: s = "hem " + any("" + d(4), sum(true, 0)); break;
                case 3: s = "button " + any("" + d(4), sum(true, 0)); break;
                default: s = "quarter";
            }
            if (d(3) == 0) s += " times " + (d(15) == 0 ? d(25) : 1 + d(6));
            if (d(3) == 0) s += " if " + any(test(true, 0), "wide 0<60", "paid = 0", "done < 3");
            return s;
        }

        String clauses(boolean orders) {
            StringBuilder s = new StringBuilder();
            int n = d(14) == 0 ? 10 + d(5) : 1 + d(4);
            for (int i = 0; i < n; i++) {
                if (i > 0) s.append(any(";", ";", " ; "));
                s.append(n >= 10 ? (orders ? "quarter" : "bars if 1=2") : orders ? orderClause() : lawClause());
            }
            return s.toString();
        }

        String spoilt(String s) {
            StringBuilder b = new StringBuilder(s);
            int k = d(4);
            int at = d(b.length() + 1);
            if (k == 0 && at < b.length()) b.deleteCharAt(at);
            if (k == 1) b.insert(at, any("(", ")", "[", "]", ";", "+", " ", "A", "\n", "1001", "x", "if", " or ", "" + (char) 233));
            if (k == 2) b.setLength(at);
            if (k == 3 && at < b.length()) b.setCharAt(at, (char) d(256));
            return b.toString();
        }

        String extreme(boolean orders) {
            String verb = orders ? "hem " : "pays ";
            StringBuilder b = new StringBuilder();
            switch (d(5)) {
                case 0: {
                    int n = 7 + d(4);
                    for (int i = 0; i < n; i++) b.append('[');
                    b.append('1');
                    for (int i = 0; i < n; i++) b.append(']');
                    return verb + b;
                }
                case 1: {
                    int n = 48 + d(5);
                    b.append(verb).append("1");
                    for (int i = 1; i < n; i++) b.append("+").append(any("1", "now".substring(0, orders ? 3 : 0) + (orders ? "" : "fed")));
                    return b.toString();
                }
                case 2: {
                    int n = 4 + d(3);
                    for (int i = 0; i < n; i++) b.append("([".charAt(0));
                    b.append("1<");
                    int k = 3 + d(3);
                    for (int i = 0; i < k; i++) b.append('[');
                    b.append('2');
                    for (int i = 0; i < k; i++) b.append(']');
                    for (int i = 0; i < n; i++) b.append(')');
                    return verb + "1 if " + b;
                }
                case 3: return verb + any("1000*1000*1000", "1000*1000*1000+1", "0-1000*1000*1000-1", "1/0", "5%0", "0007", "1000*1000*1000*1000/1000/1000", "00000000000000000001", "99999999999999999999")
                        + any("", " if 1=1 or 1/0=1", " if 1=2 and 1/0=1", " if 1/0=1 or 1=1", " if not 1/0=1");
                default: {
                    int n = 60 + d(40);
                    for (int i = 0; i < n; i++) b.append("not ");
                    return verb + "1 if " + b + "1=1";
                }
            }
        }

        void tape(String s) {
            for (int i = 0; i < s.length(); i += 20) {
                int[] n = new int[5];
                for (int k = 0; k < 20; k++) n[k / 4] = n[k / 4] << 8 | (i + k < s.length() ? s.charAt(i + k) : 0);
                same("feed \"" + s.substring(i, Math.min(s.length(), i + 20)) + "\"", x.feed(n[0], n[1], n[2], n[3], n[4]), m.feed(n));
            }
            same("end(" + s.length() + ")", x.end(s.length()), m.end(s.length()));
        }

        void text(boolean orders) {
            String s = d(5) == 0 ? extreme(orders) : clauses(orders);
            if (d(6) == 0) s = spoilt(s);
            if (d(30) == 0) s = any("", " ", "    ");
            if (s.length() > 400) s = s.substring(0, 400);
            if (m.tape.length() > 0) same("end(0)", x.end(0), m.end(0));
            tape(s);
            if (orders) same("orders() of " + s, x.orders(), m.orders()); else same("law() of " + s, x.law(), m.law());
            same("fault()", x.fault(), m.fault);
            same("stopped()", x.stopped(), m.stopped);
            if (!orders && d(2) == 0) { int k = d(Math.max(1, m.t.laws.size() + 1)) - (d(8) == 0 ? 1 : 0); same("force(" + k + ")", x.force(k), m.force(k)); }
        }

        void change() {
            int k = d(30);
            if (k < 3) { int a = d(2) == 0 ? d(90) : pick(0, 999); int b = d(3) == 0 ? pick(20, 250) : 30 + d(60); int c = d(3) == 0 ? pick(5, 200) : 10 + d(40); same("person(" + a + ", " + b + ", " + c + ")", x.person(a, b, c), m.person(a, b, c)); }
            else if (k < 6) { int a = somebody(); int b = pick(-3, 3); same("nourish(" + a + ", " + b + ")", x.nourish(a, b), m.nourish(a, b)); }
            else if (k < 8) { int a = pick(0, 3); int b = d(2) == 0 ? pick(0, 999) : d(200); same("bale(" + a + ", " + b + ")", x.bale(a, b), m.bale(a, b)); }
            else if (k < 9) { int a = pick(0, 2); int b = a == 0 ? pick(0, 999) : pick(0, 10); same("terms(" + a + ", " + b + ")", x.terms(a, b), m.terms(a, b)); }
            else if (k < 14) sewing();
            else if (k < 16) { int a = someCoat(); int b = pick(0, 1); same("let(" + a + ", " + b + ")", x.let(a, b), m.let(a, b)); }
            else if (k < 20) same("quarter()", x.quarter(), m.quarter());
            else if (k < 22) { int a = someCoat(); int b = somebody(); same("hand(" + a + ", " + b + ")", x.hand(a, b), m.hand(a, b)); }
            else if (k < 24) same("undo()", x.undo(), m.undo());
            else if (k < 26) { int a = pick(1, 40); int b = somebody(); int c = d(4) == 0 || !m.p(b) || a < 1 || a > 40 ? pick(5, 200) : m.will(b, a, 2) + d(2); same("sight(" + a + ", " + b + ", " + c + ")", x.sight(a, b, c), m.sight(a, b, c)); }
            else if (k < 27) { if (d(3) == 0) same("forget()", x.forget(), m.forget()); }
            else if (k < 28) { int a = pick(0, 1); same("image(" + a + ")", x.image(a), m.image(a)); }
            else if (k < 29) { if (d(3) == 0) { int a = pick(0, 1); same("back(" + a + ")", x.back(a), m.back(a)); } }
            else rows();
        }

        void sewing() {
            int a = pick(0, 3);
            int b = pick(0, 3);
            int q = somebody();
            int size = d(5) == 0 || !m.p(q) ? pick(20, 300) : m.t.people.get(q)[1] + d(6);
            int wide = d(5) == 0 || !m.p(q) ? pick(5, 250) : m.t.people.get(q)[2] + d(6);
            same("sew(" + a + ", " + b + ", " + q + ", " + size + ", " + wide + ")", x.sew(a, b, q, size, wide), m.sew(a, b, q, size, wide));
        }

        void rows() {
            if (d(2) == 0) {
                StringBuilder s = new StringBuilder();
                int n = d(12);
                for (int i = 0; i < n; i++) s.append((char) (i % 3 == 1 ? 15 + d(60) : d(60)));
                tape(s.toString());
            }
            if (d(3) == 0) same("row()", x.row(), m.row());
            same("moths()", x.moths(), m.moths);
        }

        void query() {
            int k = d(18);
            if (k == 0) { int a = somebody(); int b = pick(0, 6); same("of(" + a + ", " + b + ")", x.of(a, b), m.of(a, b)); }
            if (k == 1) { int a = pick(0, 3); int b = pick(0, 2); same("tailor(" + a + ", " + b + ")", x.tailor(a, b), m.tailor(a, b)); }
            if (k == 2) { int a = somebody(); int b = pick(0, 3); int c = pick(20, 300); int e = pick(5, 250); int w = pick(0, 3); same("asks(" + a + ", " + b + ", " + c + ", " + e + ", " + w + ")", x.asks(a, b, c, e, w), m.asks(a, b, c, e, w)); }
            if (k == 3) { int a = someCoat(); int b = pick(0, 8); same("coat(" + a + ", " + b + ")", x.coat(a, b), m.coat(a, b)); }
            if (k == 4) { int a = somebody(); int b = pick(0, 80); int c = pick(0, 2); same("will(" + a + ", " + b + ", " + c + ")", x.will(a, b, c), m.will(a, b, c)); }
            if (k == 5) { int a = someCoat(); same("due(" + a + ")", x.due(a), m.due(a)); }
            if (k == 6) { int a = pick(0, 3); int b = pick(0, 80); same("falls(" + a + ", " + b + ")", x.falls(a, b), m.falls(a, b)); }
            if (k == 7) { int a = somebody(); int n = pick(0, 12); int b = d(4) == 0 || !m.p(a) ? pick(5, 200) : m.t.people.get(a)[2] + d(10) - 2; same("odds(" + a + ", " + b + ", " + n + ")", x.odds(a, b, n), m.odds(a, b, n)); }
            if (k == 8 && m.t.people.size() < (d(40) == 0 ? 5 : 4)) { int a = pick(0, 3); int n = pick(1, 40); for (int w = -1; w < 8; w++) same("cutting(" + a + ", " + n + ", " + w + ")", x.cutting(a, n, w), m.cutting(a, n, w)); }
            if (k == 9) { int a = somebody(); int n = d(20) == 0 ? pick(25, 30) : d(9); int i = pick(-1, 8); same("dress(" + a + ", " + n + ", " + i + ")", x.dress(a, n, i), m.dress(a, n, i)); }
            if (k == 10) { int a = someCoat(); int n = d(12) == 0 ? pick(1, 8) : 1 + d(5); int w = pick(0, 1); same("game(" + a + ", " + n + ", " + w + ")", x.game(a, n, w), m.game(a, n, w)); }
            if (k == 11) { int a = somebody(); int n = d(3) == 0 ? pick(0, 40) : d(10); int b = d(4) == 0 || !m.p(a) ? pick(5, 200) : m.t.people.get(a)[2] + d(15) - 5; same("fed(" + a + ", " + n + ", " + b + ")", x.fed(a, n, b), m.fed(a, n, b)); }
            if (k == 12 && d(3) == 0) { int i = d(3) == 0 ? -1 : pick(0, 40); same("hidden(" + i + ")", x.hidden(i), m.hidden(i)); }
            if (k == 13) { int a = pick(0, 1000000); int n = pick(1, 80); same("years(" + a + ", " + n + ")", x.years(a, n), m.years(a, n)); }
            if (k == 14) { int a = pick(0, 8); int w = pick(0, 1); same("drawn(" + a + ", " + w + ")", x.drawn(a, w), m.drawn(a, w)); }
            if (k >= 15) { int w = pick(0, 14); same("count(" + w + ")", x.count(w), m.count(w)); }
            same("status()", x.status(), m.status);
        }

        void whole() {
            for (int w = -1; w < 16; w++) same("count(" + w + ")", x.count(w), m.count(w));
            for (int k = 0; k < 9; k++) for (int w = 0; w < 7; w++) same("of(" + k + ", " + w + ")", x.of(k, w), m.of(k, w));
            for (int k = 0; k < 11; k++) for (int w = 0; w < 9; w++) same("coat(" + k + ", " + w + ")", x.coat(k, w), m.coat(k, w));
            for (int k = 0; k < 4; k++) for (int w = 0; w < 3; w++) same("tailor(" + k + ", " + w + ")", x.tailor(k, w), m.tailor(k, w));
        }

        void run() {
            int people = d(4);
            for (int i = 0; i < people; i++) { int a = d(70); int b = 30 + d(60); int c = 10 + d(40); same("person(" + a + ", " + b + ", " + c + ")", x.person(a, b, c), m.person(a, b, c)); }
            for (int i = 0; i < 2; i++) { int b = 50 + d(900); same("bale(" + i + ", " + b + ")", x.bale(i, b), m.bale(i, b)); }
            while (calls < 400) {
                int k = d(20);
                if (k < 3) text(d(2) == 0); else if (k < 12) change(); else query();
            }
            whole();
        }
    }

    public static void main(String[] args) {
        int runs = args.length > 0 ? Integer.parseInt(args[0]) : 400;
        int first = args.length > 1 ? Integer.parseInt(args[1]) : 1;
        int wrong = 0;
        long calls = 0;
        for (int seed = first; seed < first + runs && wrong < 5; seed++) {
            Runner runner = new Runner(seed);
            try {
                runner.run();
            } catch (RuntimeException e) {
                wrong++;
                System.out.println("run " + seed + ": " + e);
                if (!(e instanceof IllegalStateException)) e.printStackTrace(System.out);
            }
            calls += runner.calls;
        }
        System.out.println(runs + " runs, " + calls + " calls, " + wrong + " runs with a wrong answer");
        SEEN.forEach((k, v) -> System.out.println(k + ": " + v));
        if (wrong != 0) System.exit(1);
    }
}
