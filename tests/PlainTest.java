import java.util.Random;

/** Runs of calls drawn by fixed seeds: the program and the plain model answer alike. */
public final class PlainTest {
    private static final Checks CHECKS = new Checks("PlainTest");
    private static final String[] SOUND = {"weight", "pitch", "hope", "cracked", "frost", "far", "hour", "muffled"};
    private static final String[] COMING = {"weight", "pitch", "hope", "cracked", "frost", "clear", "days", "day"};

    private final Random random;
    private final UnbornBells bells = new UnbornBells();
    private final PlainBells plain = new PlainBells();
    private final int seed;
    private int calls;

    private PlainTest(int seed) {
        this.seed = seed;
        this.random = new Random(seed);
    }

    public static void main(String[] args) {
        int runs = args.length > 1 ? Integer.parseInt(args[1]) : 800;
        for (int seed = 0; seed < runs; seed++) {
            new PlainTest(seed).run();
        }
        CHECKS.close();
    }

    private int upTo(int n) {
        return random.nextInt(n + 1);
    }

    /** Mostly within, now and then a little or far beyond. */
    private int about(int least, int most) {
        int kind = random.nextInt(40);
        if (kind == 0) return least - 1;
        if (kind == 1) return most + 1;
        if (kind == 2) return random.nextInt();
        if (kind == 3) return random.nextBoolean() ? Integer.MIN_VALUE : Integer.MAX_VALUE;
        return least + random.nextInt(most - least + 1);
    }

    private int bell() {
        return about(0, Math.max(0, plain.w.bells.size() - 1));
    }

    private int child() {
        return about(0, Math.max(0, plain.w.children.size() - 1));
    }

    private void due(String call, int got, int want) {
        calls++;
        CHECKS.due("seed " + seed + " call " + calls + " " + call, got, want);
    }

    private void due(String call, boolean got, boolean want) {
        due(call, got ? 1 : 0, want ? 1 : 0);
    }

    private void run() {
        start();
        int most = 300 + random.nextInt(120);
        int guard = 0;
        while (calls < most && guard < 2000) {
            guard++;
            if (random.nextInt(100) < 25) act(); else ask();
            if (random.nextInt(8) == 0) look(random.nextInt(4));
        }
        // No look takes more than 40 calls, and an object is asked 512 times at most.
        for (int kind = 0; calls + 40 <= 512; kind++) look(kind % 4);
    }

    private void start() {
        int v = random.nextInt();
        due("state", bells.state(v), plain.state(v));
        int towers = upTo(6);
        for (int i = 0; i < towers; i++) tellFar();
        int many = random.nextInt(4) == 0 ? 11 : upTo(7);
        int span = random.nextBoolean() ? 47 : 14;
        for (int i = 0; i < many; i++) tellBell(span);
        if (random.nextInt(10) > 0) tell(0, hours());
        if (random.nextInt(3) > 0) tell(1, law(true));
        if (random.nextInt(3) > 0) tell(2, law(false));
    }

    private void tellFar() {
        int a = about(0, 3), b = about(0, 3), v = about(0, 99);
        due("far " + a + " " + b + " " + v, bells.far(a, b, v), plain.far(a, b, v));
    }

    private void tellBell(int span) {
        int t = about(0, 3), p = about(0, span), w = about(1, 99), h = about(0, 99);
        due("bell", bells.bell(t, p, w, h), plain.bell(t, p, w, h));
    }

    private void tell(int k, String text) {
        byte[] bytes = new byte[text.length()];
        for (int i = 0; i < bytes.length; i++) bytes[i] = (byte) text.charAt(i);
        for (int from = 0; from < bytes.length; from += 20) {
            int[] n = new int[5];
            for (int i = 0; i < 20; i++) n[i / 4] = n[i / 4] << 8 | (from + i < bytes.length ? bytes[from + i] & 255 : 32);
            due("feed", bells.feed(n[0], n[1], n[2], n[3], n[4]), plain.feed(n[0], n[1], n[2], n[3], n[4]));
        }
        due("end", bells.end(bytes.length), plain.end(bytes.length));
        due("text(" + k + ") " + text, bells.text(k), plain.text(k));
        due("fault(0) of " + text, bells.fault(0), plain.fault(0));
        due("fault(1) of " + text, bells.fault(1), plain.fault(1));
    }

    // ---- texts ----

    private String spoilt(String text) {
        if (random.nextInt(4) > 0) return text.length() > 400 ? text.substring(0, 400) : text;
        StringBuilder s = new StringBuilder(text);
        int times = 1 + random.nextInt(2);
        String signs = "0 19az;+-*/()<=>.\n?#\t";
        String[] words = {" not ", " ( ", " ) ", " and ", " or ", " when ", " 0 ", " 24 ", " 12345 ", " ring ", " loud ", " come ", " slack ", " clear ", " hour ", " / ", ";"};
        for (int i = 0; i < times; i++) {
            int at = random.nextInt(s.length() + 1);
            switch (random.nextInt(4)) {
                case 0: if (at < s.length()) s.deleteCharAt(at); break;
                case 1: s.insert(at, signs.charAt(random.nextInt(signs.length()))); break;
                case 2: s.insert(at, words[random.nextInt(words.length)]); break;
                default: s.setLength(at); break;
            }
        }
        return s.length() > 400 ? s.substring(0, 400) : s.toString();
    }

    private String gap() {
        return random.nextInt(12) == 0 ? "\n" : random.nextInt(5) == 0 ? "  " : " ";
    }

    private String hours() {
        int most = plain.w.bells.size() + (random.nextInt(30) == 0 ? 1 : 0);
        int lines = random.nextInt(20) == 0 ? 21 : most == 0 ? 0 : upTo(12);
        boolean tight = random.nextBoolean();
        StringBuilder s = new StringBuilder();
        for (int i = 0; i < lines; i++) {
            int hour = tight ? 5 + upTo(4) : upTo(23);
            int n = random.nextInt(60) == 0 ? upTo(26) : 1 + (random.nextInt(3) == 0 ? upTo(23) : upTo(3));
            if (lines > 12) s.append("ring ").append(random.nextInt(Math.max(1, most))).append("at 3for 1;");
            else s.append("ring").append(gap()).append(random.nextInt(Math.max(1, most))).append(gap()).append("at").append(gap())
                .append(hour).append(gap()).append("for").append(gap()).append(n).append(random.nextBoolean() ? ";" : " ;");
        }
        return spoilt(s.toString());
    }

    private String law(boolean sound) {
        int lines = random.nextInt(20) == 0 ? 17 : upTo(4);
        StringBuilder s = new StringBuilder();
        for (int i = 0; i < lines; i++) {
            s.append(sound ? "loud" : random.nextInt(3) == 0 ? "slack" : "come").append(gap());
            if (lines > 4) {
                s.append(upTo(999)).append(i < 16 ? " when hour=" + i : "").append(";");
                if (!sound) s = new StringBuilder(s.toString().replace("hour", "day"));
                continue;
            }
            s.append(e(sound));
            if (random.nextInt(3) > 0) s.append(gap()).append("when").append(gap()).append(b(sound, 0));
            s.append(";");
        }
        return spoilt(s.toString());
    }

    private String e(boolean sound) {
        StringBuilder s = new StringBuilder(t(sound));
        for (int more = random.nextInt(3); more > 0; more--) s.append(random.nextBoolean() ? "+" : " - ").append(t(sound));
        return s.toString();
    }

    private String t(boolean sound) {
        StringBuilder s = new StringBuilder(u(sound));
        for (int more = random.nextInt(3) - 1; more > 0; more--) {
            if (random.nextBoolean()) s.append(" * ").append(u(sound)); else s.append("/").append(random.nextInt(40) == 0 ? 0 : 1 + upTo(20));
        }
        return s.toString();
    }

    private String u(boolean sound) {
        if (random.nextInt(3) == 0) return String.valueOf(random.nextInt(20) == 0 ? upTo(9999) : upTo(60));
        return (sound ? SOUND : COMING)[random.nextInt(8)];
    }

    private String b(boolean sound, int deep) {
        StringBuilder s = new StringBuilder(a(sound, deep));
        for (int more = random.nextInt(3) - 1; more > 0; more--) s.append(gap()).append("or").append(gap()).append(a(sound, deep));
        return s.toString();
    }

    private String a(boolean sound, int deep) {
        StringBuilder s = new StringBuilder(c(sound, deep));
        for (int more = random.nextInt(3) - 1; more > 0; more--) s.append(gap()).append("and").append(gap()).append(c(sound, deep));
        return s.toString();
    }

    private String c(boolean sound, int deep) {
        int kind = random.nextInt(deep > 8 ? 3 : 7);
        if (kind == 5) return "not " + c(sound, deep + 1);
        if (kind == 6) return "(" + (random.nextInt(6) == 0 ? "not not (not " + b(sound, deep + 4) + ")" : b(sound, deep + 1)) + ")";
        return e(sound) + (kind < 2 ? "<" : kind < 4 ? ">" : "=") + e(sound);
    }

    // ---- calls ----

    private void act() {
        int kind = random.nextInt(20);
        int bell = bell();
        switch (kind) {
            case 0: case 1: case 2: case 3: {
                int n = random.nextInt(8) == 0 ? about(1, 60) : 1 + upTo(2);
                due("days " + n, bells.days(n), plain.days(n));
                break;
            }
            case 4: if (random.nextInt(3) == 0) due("melt", bells.melt(bell), plain.melt(bell)); break;
            case 5: case 6: {
                boolean is = random.nextInt(3) > 0;
                due("muffle", bells.muffle(bell, is), plain.muffle(bell, is));
                break;
            }
            case 7: case 8: case 9: {
                int a = child(), b = child();
                due("swap", bells.swap(a, b), plain.swap(a, b));
                break;
            }
            case 10: case 11: {
                int times = 1 + upTo(random.nextInt(4) == 0 ? 7 : 1);
                for (int i = 0; i < times; i++) due("undo", bells.undo(), plain.undo());
                break;
            }
            case 12: {
                boolean taken = random.nextBoolean();
                due("image " + taken, bells.image(taken), plain.image(taken));
                break;
            }
            case 13: if (random.nextInt(3) == 0) tell(0, hours()); break;
            case 14: tell(1, law(true)); break;
            case 15: tell(2, law(false)); break;
            case 16: case 17: {
                int what = about(0, 5);
                int v = what == 2 ? about(0, 1000) : what == 3 ? about(0, 99) : what == 4 ? about(0, 1) : what == 5 ? about(0, 47) : about(0, 9);
                due("set " + what + " " + v, bells.set(what, bell, v), plain.set(what, bell, v));
                break;
            }
            case 18: {
                int a = child(), hour = about(0, 23), tower = random.nextInt(3) > 0 && plain.isBell(bell) ? plain.b(bell).tower : about(0, 3);
                // Whether hour and tower are asked when none is to be a TURN, the document leaves open.
                if (a == -1 || random.nextInt(12) == 0) due("no turns", bells.turn(-1, 0, 0), plain.turn(-1, 0, 0));
                else due("turn", bells.turn(a, hour, tower), plain.turn(a, hour, tower));
                break;
            }
            default:
                if (random.nextInt(4) == 0) tellFar();
                else if (random.nextInt(4) == 0) tellBell(47);
                else if (random.nextInt(6) == 0) {
                    int n = about(0, 20), k = about(0, 2);
                    due("end", bells.end(n), plain.end(n));
                    due("text", bells.text(k), plain.text(k));
                    due("fault(0)", bells.fault(0), plain.fault(0));
                    due("fault(1)", bells.fault(1), plain.fault(1));
                }
                break;
        }
    }

    /** All that look() tells, or all of two bells, of some children, of the last lines of the book. */
    private void look(int kind) {
        switch (kind) {
            case 0: for (int what = -1; what <= 37; what++) due("look " + what, bells.look(what), plain.look(what)); break;
            case 1: lookAtBell(bell()); lookAtBell(bell()); break;
            case 2: {
                int first = Math.max(0, plain.w.children.size() - 8 - upTo(12));
                for (int i = first; i < first + 9; i++)
                    for (int what = 0; what <= 3; what++) due("child " + i + " " + what, bells.child(i, what), plain.child(i, what));
                break;
            }
            default:
                for (int i = Math.max(0, plain.w.book.size() - 6); i <= plain.w.book.size(); i++)
                    for (int what = 0; what <= 4; what++) due("book " + i + " " + what, bells.book(i, what), plain.book(i, what));
                break;
        }
    }

    private void lookAtBell(int bell) {
        for (int what = 0; what <= 12; what++) due("of " + bell + " " + what, bells.of(bell, what), plain.of(bell, what));
    }

    private void ask() {
        int bell = bell(), child = child(), tower = about(0, 3), hour = about(0, 23), what = about(0, 1), n = about(1, 99);
        int set = random.nextInt(10) == 0 ? random.nextInt() : random.nextInt(Math.max(1, 1 << plain.w.bells.size()));
        switch (random.nextInt(30)) {
            case 0: { int k = about(0, 11); due("of " + bell + " " + k, bells.of(bell, k), plain.of(bell, k)); break; }
            case 1: due("loud", bells.loud(bell, tower, hour), plain.loud(bell, tower, hour)); break;
            case 2: due("astray", bells.astray(bell, hour), plain.astray(bell, hour)); break;
            case 3: { int k = about(0, 2); due("child", bells.child(child, k), plain.child(child, k)); break; }
            case 4: { int i = about(0, 9), k = about(0, 3); due("book", bells.book(i, k), plain.book(i, k)); break; }
            case 5: due("heard", bells.heard(tower, hour, n), plain.heard(tower, hour, n)); break;
            case 6: due("silence", bells.silence(what), plain.silence(what)); break;
            case 7: { int m = about(1, 10), k = random.nextInt(3) == 0 ? what : 10 + about(0, 9); due("rows " + m + " " + k, bells.rows(m, k), plain.rows(m, k)); break; }
            case 8: { int g = random.nextBoolean() ? n : about(1, 999); due("melts " + g, bells.melts(g, what), plain.melts(g, what)); break; }
            case 9: { int step = about(1, 24); due("siblings", bells.siblings(step, what), plain.siblings(step, what)); break; }
            case 10: { int k = about(0, 2); due("right " + k, bells.right(k), plain.right(k)); break; }
            case 11: due("fits", bells.fits(child), plain.fits(child)); break;
            case 12: due("ask", bells.ask(child), plain.ask(child)); break;
            case 13: due("stop", bells.stop(bell, n), plain.stop(bell, n)); break;
            case 14: due("late", bells.late(bell, n), plain.late(bell, n)); break;
            case 15: case 16: {
                int x = about(0, 999), y = about(0, 999), c = about(0, 9), d = about(0, 999), k = about(0, 60), w = about(0, 2);
                due("louder", bells.louder(x, y, c, d, k, w), plain.louder(x, y, c, d, k, w));
                break;
            }
            case 17: due("ropes", bells.ropes(what), plain.ropes(what)); break;
            case 18: due("free", bells.free(bell), plain.free(bell)); break;
            case 19: due("placed", bells.placed(bell), plain.placed(bell)); break;
            case 20: { int k = about(0, 2); due("quarrels", bells.quarrels(k), plain.quarrels(k)); break; }
            case 21: due("likeliest", bells.likeliest(), plain.likeliest()); break;
            case 22: { int k = about(0, 9); due("noneYet", bells.noneYet(k), plain.noneYet(k)); break; }
            case 23: due("raised", bells.raised(set), plain.raised(set)); break;
            case 24: due("chorus", bells.chorus(tower, n, what), plain.chorus(tower, n, what)); break;
            case 25: due("hopes", bells.hopes(bell), plain.hopes(bell)); break;
            case 26: due("octaves", bells.octaves(bell), plain.octaves(bell)); break;
            case 27: due("eldest", bells.eldest(bell, what), plain.eldest(bell, what)); break;
            default: {
                int k = random.nextBoolean() ? what : 10 + upTo(8);
                due("peals " + set + " " + k, bells.peals(set, k), plain.peals(set, k));
                break;
            }
        }
    }
}
