import java.util.ArrayList;
import java.util.Arrays;
import java.util.Collections;
import java.util.HashMap;
import java.util.LinkedHashSet;
import java.util.LinkedList;
import java.util.List;
import java.util.Map;
import java.util.Set;
import java.util.TreeMap;
import java.util.TreeSet;
import java.util.function.Function;

/**
 * The document once more, as plainly as can be and without regard to cost: searches try everything, laws are functions,
 * what can be undone is a copy of all. PlainTest compares it with the program.
 */
final class PlainBells {
    static final int NONE = -1;

    static final class Bell {
        int tower, pitch, weight, hope, cracked, muffled, how, days;

        Bell copy() {
            Bell c = new Bell();
            c.tower = tower; c.pitch = pitch; c.weight = weight; c.hope = hope;
            c.cracked = cracked; c.muffled = muffled; c.how = how; c.days = days;
            return c;
        }
    }

    /** A line of a law: its word, its E, its B (null without one). */
    record Line(String word, Function<Map<String, Integer>, Integer> e, Function<Map<String, Integer>, Boolean> b) { }

    record HourLine(int bell, int hour, int n) { }

    static final class World {
        List<Bell> bells = new ArrayList<>();
        int[][] far = new int[4][4];
        int near = 2, frost, cold, day, state;
        List<int[]> children = new ArrayList<>();
        List<int[]> book = new ArrayList<>();
        List<int[]> turns = new ArrayList<>();
        List<HourLine> hours = new ArrayList<>();
        List<Line> sound = new ArrayList<>();
        List<Line> coming = new ArrayList<>();

        World copy() {
            World c = new World();
            for (Bell b : bells) c.bells.add(b.copy());
            for (int i = 0; i < 4; i++) c.far[i] = far[i].clone();
            c.near = near; c.frost = frost; c.cold = cold; c.day = day; c.state = state;
            for (int[] x : children) c.children.add(x.clone());
            for (int[] x : book) c.book.add(x.clone());
            for (int[] x : turns) c.turns.add(x.clone());
            c.hours = new ArrayList<>(hours);
            c.sound = sound;
            c.coming = coming;
            return c;
        }
    }

    World w = new World();
    World image;
    LinkedList<World> past = new LinkedList<>();
    StringBuilder tape = new StringBuilder();
    int fault, place = NONE;

    // ---- basics ----

    boolean in(int v, int a, int b) { return a <= v && v <= b; }
    boolean isBell(int b) { return in(b, 0, w.bells.size() - 1); }
    Bell b(int i) { return w.bells.get(i); }
    boolean linesHave(int bell, int hour) {
        for (HourLine l : w.hours)
            if (l.bell == bell)
                for (int i = 0; i < l.n; i++) if ((l.hour + i) % 24 == hour) return true;
        return false;
    }
    boolean sounds(int bell, int hour) { return b(bell).how == 0 && linesHave(bell, hour); }
    boolean everSounds(int bell) {
        for (int h = 0; h < 24; h++) if (sounds(bell, h)) return true;
        return false;
    }
    boolean near(int a, int c) { return Math.abs(b(a).pitch - b(c).pitch) < w.near; }
    int draw(int m) {
        w.state = (int) (1664525L * w.state + 1013904223L);
        return (int) ((w.state & 0xffffffffL) >> 8) % m;
    }
    void keep() { past.addLast(w.copy()); if (past.size() > 6) past.removeFirst(); }
    void forget() { past.clear(); }

    int first(List<Line> law, String word, Map<String, Integer> env, int otherwise) {
        for (Line l : law) if (l.word.equals(word) && (l.b == null || l.b.apply(env))) return l.e.apply(env);
        return otherwise;
    }
    Map<String, Integer> env(int bell) {
        Map<String, Integer> e = new HashMap<>();
        e.put("weight", b(bell).weight); e.put("pitch", b(bell).pitch); e.put("hope", b(bell).hope);
        e.put("cracked", b(bell).cracked); e.put("frost", w.frost);
        return e;
    }
    int loudness(int bell, int standing, int tower, int hour) {
        Map<String, Integer> e = env(bell);
        int far = w.far[standing][tower];
        e.put("far", far); e.put("hour", hour); e.put("muffled", b(bell).muffled);
        return Math.min(999, Math.max(0, first(w.sound, "loud", e, b(bell).weight - far)));
    }
    int loudness(int bell, int tower, int hour) { return loudness(bell, b(bell).tower, tower, hour); }
    /** Among these bells, that all sound, with this one at a tower. */
    boolean clear(int bell, int tower, int hour, List<Integer> among) {
        for (int o : among)
            if (o != bell && near(o, bell) && 2 * loudness(o, tower, hour) >= loudness(bell, tower, tower, hour)) return false;
        return true;
    }
    List<Integer> soundingAt(int hour) {
        List<Integer> l = new ArrayList<>();
        for (int i = 0; i < w.bells.size(); i++) if (sounds(i, hour)) l.add(i);
        return l;
    }
    boolean clear(int bell, int hour) { return sounds(bell, hour) && clear(bell, b(bell).tower, hour, soundingAt(hour)); }
    int clearCount(int bell) { int n = 0; for (int h = 0; h < 24; h++) if (clear(bell, h)) n++; return n; }
    Map<String, Integer> comingEnv(int bell) {
        Map<String, Integer> e = env(bell);
        e.put("clear", clearCount(bell)); e.put("days", b(bell).days); e.put("day", w.day);
        return e;
    }
    int come(int bell) { return Math.min(1000, Math.max(0, first(w.coming, "come", comingEnv(bell), 10 * clearCount(bell)))); }
    int slack(int bell) { return Math.min(99, Math.max(0, first(w.coming, "slack", comingEnv(bell), 0))); }
    int strayed(int bell, int hour) {
        int best = NONE, most = NONE;
        for (int o : soundingAt(hour)) {
            int d = Math.abs(b(o).pitch - b(bell).pitch);
            if (d != 0 && d != 12 && d != 24 && d != 36) continue;
            int l = loudness(o, b(bell).tower, hour);
            if (l > most || l == most && o == bell) { most = l; best = o; }
        }
        return best;
    }

    // ---- told and done ----

    int state(int v) { int was = w.state; w.state = v; forget(); return was; }
    boolean far(int a, int c, int v) {
        if (!in(a, 0, 3) || !in(c, 0, 3) || a == c || !in(v, 0, 99)) return false;
        w.far[a][c] = v; w.far[c][a] = v; forget(); return true;
    }
    int bell(int t, int p, int we, int h) {
        if (!in(t, 0, 3) || !in(p, 0, 47) || !in(we, 1, 99) || !in(h, 0, 99) || w.bells.size() == 10) return NONE;
        Bell n = new Bell(); n.tower = t; n.pitch = p; n.weight = we; n.hope = h;
        w.bells.add(n); forget(); return w.bells.size() - 1;
    }
    boolean set(int what, int who, int v) {
        int[] most = {12, 9, 1000, 99, 1, 47};
        if (!in(what, 0, 5) || !in(v, 0, most[what]) || what >= 3 && !isBell(who)) return false;
        switch (what) {
            case 0 -> w.near = v;
            case 1 -> w.frost = v;
            case 2 -> w.cold = v;
            case 3 -> b(who).hope = v;
            case 4 -> b(who).cracked = v;
            default -> b(who).pitch = v;
        }
        forget(); return true;
    }
    void note(int what, int own, int came) { if (w.book.size() < 120) w.book.add(new int[] {w.day, what, own, came}); }
    boolean melt(int bell) {
        if (!isBell(bell) || b(bell).how == 2) return false;
        keep(); b(bell).how = 2; note(1, bell, NONE); return true;
    }
    boolean muffle(int bell, boolean is) {
        if (!isBell(bell) || b(bell).how == 2 || (b(bell).muffled == 1) == is) return false;
        keep(); b(bell).muffled = is ? 1 : 0; return true;
    }
    boolean swap(int a, int c) {
        int n = w.children.size();
        if (!in(a, 0, n - 1) || !in(c, 0, n - 1) || a == c) return false;
        keep();
        int t = w.children.get(a)[1]; w.children.get(a)[1] = w.children.get(c)[1]; w.children.get(c)[1] = t;
        note(2, a, c); return true;
    }
    int days(int n) {
        if (!in(n, 1, 60) || w.day + n > 9999) return NONE;
        int before = w.children.size();
        for (int i = 0; i < n; i++) { keep(); day(); }
        return w.children.size() - before;
    }
    void day() {
        for (int i = 0; i < w.bells.size(); i++) {
            if (!everSounds(i)) continue;
            int come = come(i), slack = slack(i);
            b(i).days = Math.min(9999, b(i).days + 1);
            b(i).hope = Math.max(0, b(i).hope - slack);
            if (come <= 0 || draw(1000) >= come) continue;
            int hour = NONE;
            for (int h = 23; h >= 0; h--) if (clear(i, h)) hour = h;
            if (hour == NONE) for (int h = 23; h >= 0; h--) if (sounds(i, h)) hour = h;
            int came = strayed(i, hour);
            b(i).how = 1;
            for (int k = 0; k < 1 + b(i).cracked; k++)
                if (w.children.size() < 20) {
                    int to = k == 0 ? came : i;
                    w.children.add(new int[] {i, to, w.day});
                    note(0, i, to);
                }
        }
        if (w.cold > 0) w.frost = draw(1000) < w.cold ? Math.min(9, w.frost + 1) : Math.max(0, w.frost - 1);
        w.day++;
    }

    // ---- texts ----

    static final class Fault extends Exception {
        private static final long serialVersionUID = 1L;
        final int kind, place;
        Fault(int kind, int place) { this.kind = kind; this.place = place; }
    }

    record Token(String text, int place, boolean bad) {
        boolean isNumber() { return !bad && !text.isEmpty() && Character.isDigit(text.charAt(0)); }
    }

    static List<Token> tokens(String s) {
        List<Token> l = new ArrayList<>();
        java.util.regex.Matcher m = java.util.regex.Pattern.compile("[A-Za-z]+|[0-9]+|[^ \\n]", java.util.regex.Pattern.DOTALL).matcher(s);
        while (m.find()) {
            String t = m.group();
            boolean bad = t.matches("[0-9]{5,}") || t.length() == 1 && !t.matches("[A-Za-z0-9;+*/()<=>-]");
            l.add(new Token(t, m.start(), bad));
        }
        l.add(new Token("", s.length(), true));
        return l;
    }

    static final class Parser {
        final List<Token> all; int at; final Set<String> names;
        Parser(String s, Set<String> names) { all = tokens(s); this.names = names; }
        Token t() { return all.get(at); }
        boolean is(String s) { return t().text.equals(s) && !t().bad; }
        boolean end() { return at == all.size() - 1; }
        void want(String s) throws Fault { if (!is(s)) throw new Fault(1, t().place); at++; }
        int number(int least, int most) throws Fault {
            if (!t().isNumber()) throw new Fault(1, t().place);
            int v = Integer.parseInt(t().text);
            if (v < least || v > most) throw new Fault(2, t().place);
            at++; return v;
        }
        Function<Map<String, Integer>, Integer> e() throws Fault {
            Function<Map<String, Integer>, Integer> left = term();
            while (is("+") || is("-")) {
                boolean plus = is("+"); at++;
                Function<Map<String, Integer>, Integer> l = left, r = term();
                left = plus ? x -> l.apply(x) + r.apply(x) : x -> l.apply(x) - r.apply(x);
            }
            return left;
        }
        Function<Map<String, Integer>, Integer> term() throws Fault {
            Function<Map<String, Integer>, Integer> left = unit();
            while (is("*") || is("/")) {
                boolean times = is("*"); at++;
                Function<Map<String, Integer>, Integer> l = left;
                if (times) { Function<Map<String, Integer>, Integer> r = unit(); left = x -> l.apply(x) * r.apply(x); }
                else { int d = number(1, 9999); left = x -> l.apply(x) / d; }
            }
            return left;
        }
        Function<Map<String, Integer>, Integer> unit() throws Fault {
            if (t().isNumber()) { int v = number(0, 9999); return x -> v; }
            String name = t().text;
            if (!names.contains(name)) throw new Fault(1, t().place);
            at++; return x -> x.get(name);
        }
        Function<Map<String, Integer>, Boolean> choice(int open) throws Fault {
            Function<Map<String, Integer>, Boolean> left = all(open);
            while (is("or")) { at++; Function<Map<String, Integer>, Boolean> l = left, r = all(open); left = x -> l.apply(x) || r.apply(x); }
            return left;
        }
        Function<Map<String, Integer>, Boolean> all(int open) throws Fault {
            Function<Map<String, Integer>, Boolean> left = claim(open);
            while (is("and")) { at++; Function<Map<String, Integer>, Boolean> l = left, r = claim(open); left = x -> l.apply(x) && r.apply(x); }
            return left;
        }
        Function<Map<String, Integer>, Boolean> claim(int open) throws Fault {
            if (is("not") || is("(")) {
                if (open == 8) throw new Fault(3, t().place);
                boolean not = is("not"); at++;
                if (not) { Function<Map<String, Integer>, Boolean> c = claim(open + 1); return x -> !c.apply(x); }
                Function<Map<String, Integer>, Boolean> c = choice(open + 1); want(")"); return c;
            }
            Function<Map<String, Integer>, Integer> l = e();
            String op = t().text;
            if (!is("<") && !is("=") && !is(">")) throw new Fault(1, t().place);
            at++;
            Function<Map<String, Integer>, Integer> r = e();
            return x -> {
                int c = Integer.compare(l.apply(x), r.apply(x));
                return op.equals("<") ? c < 0 : op.equals("=") ? c == 0 : c > 0;
            };
        }
    }

    List<HourLine> hours(String s) throws Fault {
        List<HourLine> l = new ArrayList<>();
        Parser p = new Parser(s, Set.of());
        while (!p.end()) {
            if (p.is("ring") && l.size() == 20) throw new Fault(3, p.t().place);
            p.want("ring"); int bell = p.number(0, w.bells.size() - 1);
            p.want("at"); int hour = p.number(0, 23);
            p.want("for"); int n = p.number(1, 24);
            p.want(";");
            l.add(new HourLine(bell, hour, n));
        }
        return l;
    }

    List<Line> law(String s, List<String> words, Set<String> names) throws Fault {
        List<Line> l = new ArrayList<>();
        Parser p = new Parser(s, names);
        while (!p.end()) {
            String word = p.t().text;
            if (!words.contains(word)) throw new Fault(1, p.t().place);
            if (l.size() == 16) throw new Fault(3, p.t().place);
            p.at++;
            Function<Map<String, Integer>, Integer> e = p.e();
            Function<Map<String, Integer>, Boolean> b = null;
            if (p.is("when")) { p.at++; b = p.choice(0); }
            p.want(";");
            l.add(new Line(word, e, b));
        }
        return l;
    }

    int feed(int a, int b, int c, int d, int e) {
        if (tape.length() > 380) return NONE;
        for (int v : new int[] {a, b, c, d, e})
            for (int i = 0; i < 4; i++) tape.append((char) (v >>> 24 - 8 * i & 255));
        return tape.length();
    }
    boolean end(int n) { if (n < 0 || n > tape.length()) return false; tape.setLength(n); return true; }
    int text(int k) {
        String s = tape.toString();
        tape.setLength(0); fault = 0; place = NONE;
        try {
            switch (k) {
                case 0: w.hours = hours(s); forget(); return w.hours.size();
                case 1: w.sound = law(s, List.of("loud"), Set.of("weight", "pitch", "hope", "cracked", "frost", "far", "hour", "muffled"));
                    return w.sound.size();
                case 2: w.coming = law(s, List.of("come", "slack"), Set.of("weight", "pitch", "hope", "cracked", "frost", "clear", "days", "day"));
                    return w.coming.size();
                default: return NONE;
            }
        } catch (Fault f) { fault = f.kind; place = f.place; return NONE; }
    }
    int fault(int what) { return what == 0 ? fault : what == 1 ? place : NONE; }

    // ---- asked ----

    int of(int bell, int what) {
        if (!isBell(bell) || !in(what, 0, 11)) return -2;
        int set = 0;
        if (what == 8) { for (int h = 0; h < 24; h++) if (sounds(bell, h)) set |= 1 << h; return set; }
        if (what == 9) { for (int h = 0; h < 24; h++) if (clear(bell, h)) set |= 1 << h; return set; }
        if (what == 10) return come(bell);
        if (what == 11) return slack(bell);
        Bell x = b(bell);
        return new int[] {x.tower, x.pitch, x.weight, x.hope, x.cracked, x.muffled, x.how, x.days}[what];
    }
    int loud(int bell, int tower, int hour) { return isBell(bell) && in(tower, 0, 3) && in(hour, 0, 23) ? loudness(bell, tower, hour) : NONE; }
    int astray(int bell, int hour) { return isBell(bell) && in(hour, 0, 23) && sounds(bell, hour) ? strayed(bell, hour) : NONE; }
    int child(int i, int what) { return in(i, 0, w.children.size() - 1) && in(what, 0, 2) ? w.children.get(i)[what] : NONE; }
    int book(int i, int what) { return in(i, 0, w.book.size() - 1) && in(what, 0, 3) ? w.book.get(i)[what] : -2; }

    // ---- in thought ----

    Set<Integer> hearing(int tower, int hour, int n) {
        Set<Integer> s = new TreeSet<>();
        for (int b : soundingAt(hour)) if (loudness(b, tower, hour) >= n) s.add(b);
        return s;
    }
    int bits(Iterable<Integer> s) { int r = 0; for (int i : s) r |= 1 << i; return r; }
    int heard(int tower, int hour, int n) {
        return in(tower, 0, 3) && in(hour, 0, 23) && in(n, 1, 999) ? bits(hearing(tower, hour, n)) : NONE;
    }
    int silence(int what) {
        if (!in(what, 0, 1)) return NONE;
        for (int length = 24; length > 0; length--)
            for (int from = 0; from < 24; from++) {
                boolean all = true;
                for (int i = 0; i < length; i++) all &= soundingAt((from + i) % 24).isEmpty();
                if (all) return what == 0 ? length : from;
            }
        return what == 0 ? 0 : NONE;
    }
    int[] way;
    boolean ways(int bell, int m, int k, int[] hours) {
        if (bell == hours.length) { way = hours.clone(); return true; }
        if (b(bell).how != 0) { hours[bell] = NONE; return ways(bell + 1, m, k, hours); }
        for (int h = 0; h < m; h++) {
            boolean ok = true;
            Set<Integer> used = new TreeSet<>(List.of(h));
            for (int o = 0; o < bell; o++) {
                if (hours[o] != NONE) used.add(hours[o]);
                if (hours[o] == h && near(o, bell)) ok = false;
            }
            if (!ok || used.size() > k) continue;
            hours[bell] = h;
            if (ways(bell + 1, m, k, hours)) return true;
        }
        return false;
    }
    int rows(int m, int what) {
        if (!in(m, 1, 10) || what != 0 && !isBell(what - 10)) return NONE;
        for (int k = 0; k <= m; k++)
            if (ways(0, m, k, new int[w.bells.size()])) return what == 0 ? k : way[what - 10];
        return NONE;
    }
    int melts(int weight, int what) {
        if (!in(weight, 1, 999) || !in(what, 0, 1)) return NONE;
        int[] best = null;
        for (int set = 0; set < 1 << w.bells.size(); set++) {
            int hope = 0, sum = 0; boolean ok = true;
            for (int i = 0; i < w.bells.size(); i++)
                if ((set >> i & 1) == 1) { hope += b(i).hope; sum += b(i).weight; ok &= b(i).how != 2; }
            int[] key = {hope, Integer.bitCount(set), set};
            if (ok && sum >= weight && (best == null || Arrays.compare(key, best) < 0)) best = key;
        }
        return best == null ? NONE : what == 0 ? best[0] : best[2];
    }
    int siblings(int step, int what) {
        if (!in(step, 1, 24) || !in(what, 0, 1)) return NONE;
        Set<Integer> pitches = new TreeSet<>();
        for (Bell b : w.bells) if (b.how != 2) pitches.add(b.pitch);
        int most = 0, low = NONE;
        for (int p : pitches) {
            int n = 0;
            for (int q = p; pitches.contains(q); q += step) n++;
            if (n > most) { most = n; low = p; }
        }
        return what == 0 ? most : low;
    }
    int right(int what) {
        if (!in(what, 0, 2)) return NONE;
        int n = w.children.size(), swaps = 0;
        int[] own = new int[n], came = new int[n];
        for (int i = 0; i < n; i++) { own[i] = w.children.get(i)[0]; came[i] = w.children.get(i)[1]; }
        int wrong = 0;
        for (int i = 0; i < n; i++) if (own[i] != came[i]) wrong |= 1 << i;
        if (what == 0) return wrong;
        boolean more = true;
        while (more) {
            more = false;
            for (int a = 0; a < n && !more; a++) {
                if (own[a] == came[a]) continue;
                List<Integer> bs = new ArrayList<>(), both = new ArrayList<>();
                for (int c = 0; c < n; c++)
                    if (c != a && own[c] != came[c] && came[c] == own[a]) {
                        bs.add(c);
                        if (own[c] == came[a]) both.add(c);
                    }
                if (bs.isEmpty()) continue;
                int c = both.isEmpty() ? bs.get(0) : both.get(0);
                int t = came[a]; came[a] = came[c]; came[c] = t;
                swaps++; more = true;
            }
        }
        int right = 0;
        for (int i = 0; i < n; i++) if (own[i] == came[i]) right++;
        return what == 1 ? swaps : right;
    }
    int turn(int child, int hour, int tower) {
        if (child == NONE) { w.turns.clear(); forget(); return 0; }
        if (!in(child, 0, w.children.size() - 1) || !in(hour, 0, 23) || !in(tower, 0, 3) || w.turns.size() == 12) return NONE;
        w.turns.add(new int[] {child, hour, tower}); forget(); return w.turns.size();
    }
    int fits(int child) {
        if (!in(child, 0, w.children.size() - 1)) return NONE;
        int set = 0;
        for (int i = 0; i < w.bells.size(); i++) {
            boolean ok = b(i).how != 2;
            for (int[] t : w.turns) if (t[0] == child) ok &= linesHave(i, t[1]) && b(i).tower == t[2];
            if (ok) set |= 1 << i;
        }
        return set;
    }
    int ask(int child) {
        int fits = fits(child);
        if (fits == NONE || Integer.bitCount(fits) < 2) return NONE;
        TreeMap<Integer, Integer> firstBy = new TreeMap<>();
        for (int h = 0; h < 24; h++) {
            int yes = 0, no = 0;
            for (int i = 0; i < 10; i++) if ((fits >> i & 1) == 1) { if (linesHave(i, h)) yes++; else no++; }
            firstBy.putIfAbsent(Math.max(yes, no), h);
        }
        return firstBy.firstEntry().getValue();
    }
    int stop(int bell, int price) {
        if (!isBell(bell) || !in(price, 0, 99)) return NONE;
        int hope = b(bell).hope, come = come(bell), slack = slack(bell);
        for (int k = 0; k < 100; k++) {
            if (Math.floorDiv(hope * come, 1000) < price) return k;
            hope = Math.max(0, hope - slack);
        }
        return NONE;
    }
    int late(int bell, int n) {
        if (!isBell(bell) || !in(n, 0, 99)) return NONE;
        long v = 1000000;
        for (int i = 0; i < n; i++) v = Math.floorDiv(v * (1000 - come(bell)), 1000L);
        return (int) v;
    }
    int louder(int x, int y, int c, int d, int n, int what) {
        if (!in(x, 0, 999) || !in(y, 0, 999) || !in(c, 0, 9) || !in(d, 0, 999) || !in(what, 0, 2)) return NONE;
        if (what != 2 && !in(n, 0, 60)) return NONE;
        List<int[]> days = new ArrayList<>();
        days.add(new int[] {x, y});
        for (int i = 1; i <= 60; i++) {
            int[] p = days.get(i - 1);
            days.add(new int[] {Math.min(999, d + Math.floorDiv(c * p[1], 4)), Math.min(999, d + Math.floorDiv(c * p[0], 4))});
        }
        if (what < 2) return days.get(n)[what];
        for (int i = 1; i <= 60; i++) if (Arrays.equals(days.get(i), days.get(i - 1))) return i;
        return NONE;
    }
    int ropes(int what) {
        if (!in(what, 0, 1)) return NONE;
        int most = 0, at = NONE;
        for (int h = 0; h < 24; h++) if (soundingAt(h).size() > most) { most = soundingAt(h).size(); at = h; }
        return what == 0 ? at : most;
    }
    int free(int bell) {
        if (!isBell(bell) || b(bell).how != 0) return NONE;
        int set = 0;
        for (int h = 0; h < 24; h++) if (!sounds(bell, h) && clear(bell, b(bell).tower, h, soundingAt(h))) set |= 1 << h;
        return set;
    }
    int placed(int bell) {
        if (!isBell(bell) || b(bell).how != 0) return NONE;
        int was = b(bell).tower, most = NONE, best = NONE;
        for (int t = 0; t < 4; t++) {
            b(bell).tower = t;
            int n = clearCount(bell);
            if (n > most) { most = n; best = t; }
        }
        b(bell).tower = was;
        return best;
    }
    int quarrels(int what) {
        if (!in(what, 0, 2)) return NONE;
        List<int[]> found = new ArrayList<>();
        for (int a = 0; a < w.bells.size(); a++)
            for (int c = a + 1; c < w.bells.size(); c++) {
                boolean some = false;
                for (int h = 0; h < 24; h++)
                    some |= sounds(a, h) && sounds(c, h) && !clear(a, b(a).tower, h, List.of(a, c)) && !clear(c, b(c).tower, h, List.of(a, c));
                if (some) found.add(new int[] {a, c});
            }
        return what == 0 ? found.size() : found.isEmpty() ? NONE : found.get(0)[what - 1];
    }
    int likeliest() {
        int best = NONE;
        for (int i = 0; i < w.bells.size(); i++) if (everSounds(i) && (best == NONE || come(i) > come(best))) best = i;
        return best;
    }
    int noneYet(int n) {
        if (!in(n, 0, 99)) return NONE;
        List<Integer> comes = new ArrayList<>();
        for (int k = 0; k < w.bells.size(); k++) if (everSounds(k)) comes.add(come(k));
        long v = 1000000;
        for (int i = 0; i < n; i++) for (int c : comes) v = Math.floorDiv(v * (1000 - c), 1000L);
        return (int) v;
    }
    int raised(int bells) {
        if (bells <= 0 || bells >= 1 << w.bells.size()) return NONE;
        int best = NONE;
        for (int r = 0; r <= 47; r++) {
            boolean ok = true;
            for (int i = 0; i < w.bells.size(); i++) {
                if ((bells >> i & 1) == 0) continue;
                ok &= b(i).pitch + r <= 47;
                for (int o = 0; o < w.bells.size(); o++)
                    if ((bells >> o & 1) == 0 && b(o).how != 2) ok &= Math.abs(b(o).pitch - b(i).pitch - r) >= w.near;
            }
            if (ok) best = r;
        }
        return best;
    }
    int chorus(int tower, int n, int what) {
        if (!in(tower, 0, 3) || !in(n, 1, 999) || !in(what, 0, 1)) return NONE;
        int most = 0, at = NONE;
        for (int h = 0; h < 24; h++) { int k = hearing(tower, h, n).size(); if (k > most) { most = k; at = h; } }
        return what == 0 ? at : most;
    }
    int hopes(int bell) {
        if (!isBell(bell)) return NONE;
        int hope = b(bell).hope, n = 0, slack = slack(bell);
        while (hope > 0) { if (slack == 0) return NONE; hope -= slack; n++; }
        return n;
    }
    int octaves(int bell) {
        if (!isBell(bell)) return NONE;
        Set<Integer> s = new TreeSet<>();
        for (int o = 0; o < w.bells.size(); o++)
            if (o != bell && b(o).how != 2 && List.of(0, 12, 24, 36).contains(Math.abs(b(o).pitch - b(bell).pitch))) s.add(o);
        return bits(s);
    }
    int eldest(int bell, int what) {
        if (!isBell(bell) || !in(what, 0, 1)) return NONE;
        for (int i = 0; i < w.children.size(); i++) if (w.children.get(i)[what] == bell) return i;
        return NONE;
    }
    int peals, pealSize;
    int[] firstPeal;
    void orders(int rest, LinkedHashSet<Integer> so, int last) {
        if (rest == 0) {
            if (peals++ == 0) firstPeal = so.stream().mapToInt(i -> i).toArray();
            return;
        }
        for (int i = 0; i < 10; i++)
            if ((rest >> i & 1) == 1 && (last == NONE || !near(last, i))) {
                so.add(i); orders(rest & ~(1 << i), so, i); so.remove(i);
            }
    }
    int peals(int bells, int what) {
        if (bells < 0 || bells >= 1 << w.bells.size() || Integer.bitCount(bells) > 8) return NONE;
        peals = 0; firstPeal = null;
        orders(bells, new LinkedHashSet<>(), NONE);
        if (what == 0) return peals;
        return firstPeal != null && what >= 10 && in(what - 10, 0, firstPeal.length - 1) ? firstPeal[what - 10] : NONE;
    }
    boolean undo() {
        if (past.isEmpty()) return false;
        World back = past.removeLast();
        back.sound = w.sound; back.coming = w.coming;
        w = back; return true;
    }
    boolean image(boolean taken) {
        if (taken) { image = w.copy(); return true; }
        if (image == null) return false;
        w = image.copy(); forget(); return true;
    }
    int look(int what) {
        if (in(what, 20, 35)) return w.far[(what - 20) / 4][(what - 20) % 4];
        if (!in(what, 0, 12)) return NONE;
        return new int[] {w.bells.size(), w.children.size(), w.day, w.near, w.frost, w.cold, w.book.size(), w.state,
            w.hours.size(), w.sound.size(), w.coming.size(), w.turns.size(), past.size()}[what];
    }

    static List<Integer> shuffled(int n, java.util.Random random) {
        List<Integer> l = new ArrayList<>();
        for (int i = 0; i < n; i++) l.add(i);
        Collections.shuffle(l, random);
        return l;
    }
}
