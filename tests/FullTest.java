/** Parishes with all that they can hold: each question with each argument, compared with the plain model. */
public final class FullTest {
    private static final Checks T = new Checks("FullTest");

    // Bringing a parish to its last stage takes fewer calls than these leave of the 512 that an object serves.
    private static final int MOST_QUESTIONS = 300;

    private final int kind;
    private final int stage;
    private UnbornBells x;
    private PlainBells p;
    private int questions;

    private FullTest(int kind, int stage) {
        this.kind = kind;
        this.stage = stage;
    }

    public static void main(String[] args) {
        for (int kind = 0; kind < 4; kind++) {
            for (int stage = 0; stage < 4; stage++) {
                new FullTest(kind, stage).askAll();
            }
        }
        T.close();
    }

    /** The parish to be asked: after so many questions a new one that has come to the same stage. */
    private UnbornBells x() {
        if (x == null || questions == MOST_QUESTIONS) {
            x = new UnbornBells();
            p = new PlainBells();
            questions = 0;
            bringToStage();
        }
        questions++;
        return x;
    }

    private void tell(int k, String text) {
        Checks.feed(x, text);
        p.tape.setLength(0);
        p.tape.append(text);
        T.due("12 " + text, x.text(k), p.text(k));
    }

    private void bringToStage() {
        found();
        if (stage >= 1) {
            tell(1, "loud weight * 2 - far * 3 when hour < 12 or cracked = 0; loud 99 - pitch;");
            tell(2, "come 1000 when pitch > 3; slack 4;");
            T.due("9", x.days(1), p.days(1));
        }
        if (stage >= 2) {
            fill();
        }
        for (int i = 0; i < 10 && stage >= 3; i += 3) {
            T.due("6", x.melt(9 - i) ? 1 : 0, p.melt(9 - i) ? 1 : 0);
        }
    }

    /** Ten bells, all cracked, all far, with their hours. */
    private void found() {
        StringBuilder hours = new StringBuilder();
        for (int i = 0; i < 10; i++) {
            int pitch = kind < 2 ? 12 * (i % 4) + i / 4 : 47 - i;
            T.due("4", x.bell(i % 4, pitch, 90 - 7 * i, 9 * i), p.bell(i % 4, pitch, 90 - 7 * i, 9 * i));
            T.due("5", x.set(4, i, 1) ? 1 : 0, p.set(4, i, 1) ? 1 : 0);
            hours.append("ring ").append(i).append(" at ").append(2 * i).append(" for ").append(kind == 1 ? 24 : 7).append(";");
        }
        for (int a = 0; a < 4; a++) {
            for (int b = 0; b < a; b++) {
                T.due("3", x.far(a, b, 5 * a + b) ? 1 : 0, p.far(a, b, 5 * a + b) ? 1 : 0);
            }
        }
        T.due("5", x.set(0, 0, kind + 1) ? 1 : 0, p.set(0, 0, kind + 1) ? 1 : 0);
        tell(0, hours.toString());
    }

    /** Twenty children, a book as long as it can be, twelve turns. */
    private void fill() {
        tell(2, "come 1000; slack 4;");
        T.due("9", x.days(1), p.days(1));
        T.due("45 twenty children", x.look(1), 20);
        for (int i = 0; i < 100; i++) {
            T.due("8", x.swap(i % 20, (i * 7 + 3) % 20) ? 1 : 0, p.swap(i % 20, (i * 7 + 3) % 20) ? 1 : 0);
        }
        for (int i = 0; i < 12; i++) {
            T.due("25", x.turn(i < 6 ? 19 : i, 2 * i, i % 4), p.turn(i < 6 ? 19 : i, 2 * i, i % 4));
        }
    }

    private void askAll() {
        for (int what = -1; what < 37; what++) {
            T.due("45 look(" + what + ")", x().look(what), p.look(what));
        }
        for (int bell = -1; bell <= 10; bell++) {
            askOfBell(bell);
        }
        for (int child = -1; child <= 20; child++) {
            for (int what = -1; what <= 3; what++) {
                T.due("17 child", x().child(child, what), p.child(child, what));
            }
            T.due("26 fits(" + child + ")", x().fits(child), p.fits(child));
            T.due("27 ask(" + child + ")", x().ask(child), p.ask(child));
        }
        for (int i = -1; i <= 120; i++) {
            for (int what = -1; what <= 4; what++) {
                T.due("18 book", x().book(i, what), p.book(i, what));
            }
        }
        for (int what = -1; what <= 3; what++) {
            T.due("20 silence", x().silence(what), p.silence(what));
            T.due("24 right", x().right(what), p.right(what));
            T.due("31 ropes", x().ropes(what), p.ropes(what));
            T.due("34 quarrels", x().quarrels(what), p.quarrels(what));
        }
        askOfNumbers();
        T.due("35 likeliest", x().likeliest(), p.likeliest());
        for (int n = -1; n <= 100; n++) {
            T.due("36 noneYet(" + n + ")", x().noneYet(n), p.noneYet(n));
        }
        for (int set = -1; set <= 1024; set += set < 20 ? 1 : 7) {
            T.due("37 raised(" + set + ")", x().raised(set), p.raised(set));
            for (int what = Integer.bitCount(set) < 6 ? 0 : 10; what <= 18; what += what == 0 ? 10 : 1) {
                if (Integer.bitCount(set) < 6) {
                    T.due("42 peals(" + set + ", " + what + ")", x().peals(set, what), p.peals(set, what));
                }
            }
        }
    }

    private void askOfBell(int bell) {
        for (int what = -1; what <= 12; what++) {
            T.due("14 of(" + bell + ", " + what + ")", x().of(bell, what), p.of(bell, what));
        }
        for (int hour = -1; hour <= 24; hour++) {
            for (int tower = -1; tower <= 4; tower++) {
                T.due("15 loud", x().loud(bell, tower, hour), p.loud(bell, tower, hour));
            }
            T.due("16 astray(" + bell + ", " + hour + ")", x().astray(bell, hour), p.astray(bell, hour));
        }
        for (int price = -1; price <= 100; price++) {
            T.due("28 stop", x().stop(bell, price), p.stop(bell, price));
            T.due("29 late", x().late(bell, price), p.late(bell, price));
        }
        T.due("32 free(" + bell + ")", x().free(bell), p.free(bell));
        T.due("33 placed(" + bell + ")", x().placed(bell), p.placed(bell));
        T.due("39 hopes(" + bell + ")", x().hopes(bell), p.hopes(bell));
        T.due("40 octaves(" + bell + ")", x().octaves(bell), p.octaves(bell));
        for (int what = -1; what <= 2; what++) {
            T.due("41 eldest", x().eldest(bell, what), p.eldest(bell, what));
        }
    }

    private void askOfNumbers() {
        for (int m = 0; m <= 11; m++) {
            for (int what = 9; what <= 20; what++) {
                T.due("21 rows(" + m + ", " + what + ")", x().rows(m, what), p.rows(m, what));
            }
            T.due("21 rows(" + m + ", 0)", x().rows(m, 0), p.rows(m, 0));
        }
        for (int weight = 0; weight <= 1000; weight += 25) {
            for (int what = -1; what <= 2; what++) {
                T.due("22 melts(" + weight + ")", x().melts(weight, what), p.melts(weight, what));
            }
        }
        for (int step = 0; step <= 25; step++) {
            for (int what = -1; what <= 2; what++) {
                T.due("23 siblings(" + step + ")", x().siblings(step, what), p.siblings(step, what));
            }
        }
        for (int tower = -1; tower <= 4; tower++) {
            for (int n = 0; n <= 1000; n += n < 200 ? 20 : 200) {
                for (int hour = -1; hour <= 24; hour++) {
                    T.due("19 heard", x().heard(tower, hour, n), p.heard(tower, hour, n));
                }
                for (int what = -1; what <= 2; what++) {
                    T.due("38 chorus", x().chorus(tower, n, what), p.chorus(tower, n, what));
                }
            }
        }
    }
}
