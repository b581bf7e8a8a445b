/** Promises 9, 17, 18: days, the children that come, the book. */
public final class DaysTest {
    private static final Checks T = new Checks("DaysTest");
    private static final int NONE = UnbornBells.NONE;

    public static void main(String[] args) {
        bounds();
        draws();
        drawsWithoutSign();
        nothingToDraw();
        frost();
        hopeAndDays();
        askedAhead();
        bellByBell();
        cameWhere();
        twins();
        twentyChildren();
        theBook();
        T.close();
    }

    private static int next(int state) {
        return 1664525 * state + 1013904223;
    }

    private static UnbornBells oneBell(String coming) {
        UnbornBells x = new UnbornBells();
        x.bell(0, 10, 50, 40);
        Checks.tell(x, 0, "ring 0 at 7 for 1;");
        Checks.tell(x, 2, coming);
        return x;
    }

    private static void bounds() {
        UnbornBells x = oneBell("come 0;");
        int[] wrong = {0, -1, 61, Integer.MIN_VALUE, Integer.MAX_VALUE};
        for (int n : wrong) {
            T.due("9 days(" + n + ")", x.days(n), NONE);
        }
        T.due("9 nothing is done", x.look(2), 0);
        T.due("9 nothing is done", x.look(12), 0);
        T.due("9 60", x.days(60), 0);
        T.due("9 60", x.look(2), 60);
        T.due("9 days of the bell", x.of(0, 7), 60);
        for (int i = 1; i < 166; i++) {
            x.days(60);
        }
        T.due("9 9960", x.look(2), 9960);
        T.due("9 above 9999", x.days(40), NONE);
        T.due("9 nothing is done", x.look(2), 9960);
        T.due("9 up to 9999", x.days(39), 0);
        T.due("9 the last day", x.look(2), 9999);
        T.due("9 no more", x.days(1), NONE);
        T.due("9 days of the bell", x.of(0, 7), 9999);
    }

    private static void draws() {
        // The first draw of STATE 0 is 3960563, of 1000 that is 563.
        UnbornBells x = oneBell("come 563;");
        T.due("9 not below", x.days(1), 0);
        T.due("9 the draw was done", x.look(7), next(0));
        T.due("9 it rings on", x.of(0, 6), 0);
        T.due("9 no child", x.look(1), 0);
        x = oneBell("come 564;");
        T.due("9 below", x.days(1), 1);
        T.due("9 the draw was done", x.look(7), next(0));
        T.due("9 it hangs", x.of(0, 6), 1);
        T.due("9 a child", x.look(1), 1);
        T.due("9 no more draws", x.days(3), 0);
        T.due("9 no more draws", x.look(7), next(0));
        T.due("9 days go by", x.look(2), 4);
        T.due("9 no more rung", x.of(0, 7), 1);
    }

    private static void drawsWithoutSign() {
        for (int seed = 1; seed < 40; seed++) {
            int state = seed * 77777777;
            int draw = (int) ((next(state) & 0xffffffffL) >> 8) % 1000;
            UnbornBells x = oneBell("come " + draw + ";");
            x.state(state);
            T.due("9 not below " + draw, x.days(1), 0);
            x = oneBell("come " + (draw + 1) + ";");
            x.state(state);
            T.due("9 below " + (draw + 1), x.days(1), 1);
        }
    }

    private static void nothingToDraw() {
        UnbornBells x = oneBell("come 0;");
        x.days(5);
        T.due("9 no draw without hope of coming", x.look(7), 0);
        x = oneBell("come 0 - 5;");
        x.days(5);
        T.due("9 nor below it", x.look(7), 0);
        x = oneBell("come 1000;");
        x.bell(0, 20, 50, 40);
        T.due("9 one that never sounds is not asked", x.days(1), 1);
        T.due("9 one draw", x.look(7), next(0));
        T.due("9 not rung", x.of(1, 7), 0);
        x = oneBell("come 1000;");
        x.melt(0);
        T.due("9 nor one that is melted", x.days(1), 0);
        T.due("9 no draw", x.look(7), 0);
    }

    private static void frost() {
        int[][] cases = {{563, 5, 4}, {564, 5, 6}, {1000, 9, 9}, {1, 0, 0}, {1000, 0, 1}, {563, 9, 8}};
        for (int[] c : cases) {
            UnbornBells x = new UnbornBells();
            x.set(1, 0, c[1]);
            x.set(2, 0, c[0]);
            x.days(1);
            T.due("9 frost by " + c[0] + " from " + c[1], x.look(4), c[2]);
            T.due("9 one draw", x.look(7), next(0));
        }
        UnbornBells x = new UnbornBells();
        x.set(1, 0, 5);
        x.days(9);
        T.due("9 no cold, no change", x.look(4), 5);
        T.due("9 no draw", x.look(7), 0);
        x = oneBell("come 1;");
        x.set(2, 0, 1000);
        x.days(1);
        T.due("9 the bell's draw first, then the frost's", x.look(7), next(next(0)));
        T.due("9 it freezes", x.look(4), 1);
        x = oneBell("come 1000 when frost = 1;");
        x.set(2, 0, 1000);
        T.due("9 frost comes behind the bells", x.days(1), 0);
        T.due("9 a draw of ten times clear and one of frost", x.look(7), next(next(0)));
        T.due("9 the next day by the frost", x.days(1), 1);
        T.due("9 that day", x.child(0, 2), 1);
    }

    private static void hopeAndDays() {
        UnbornBells x = oneBell("come 0; slack 15;");
        x.days(1);
        T.due("9 hope", x.of(0, 3), 25);
        T.due("9 days", x.of(0, 7), 1);
        x.days(1);
        T.due("9 hope", x.of(0, 3), 10);
        x.days(1);
        T.due("9 0 at least", x.of(0, 3), 0);
        T.due("9 days", x.of(0, 7), 3);
        x.days(2);
        T.due("9 0 at least", x.of(0, 3), 0);
        T.due("9 days", x.of(0, 7), 5);
    }

    private static void askedAhead() {
        UnbornBells x = oneBell("come 1000 when hope = 40; come 0; slack 5;");
        T.due("9 come by hope as it was", x.days(1), 1);
        x = oneBell("come 1000 when days = 0; come 0;");
        T.due("9 come by days as they were", x.days(1), 1);
        x = oneBell("come 0; slack 7 when days = 0; slack 1;");
        x.days(1);
        T.due("9 slack by days as they were", x.of(0, 3), 33);
        x = oneBell("come 0; slack hope / 2;");
        x.days(2);
        T.due("9 slack by hope as it was", x.of(0, 3), 10);
        x = oneBell("come 1000 when day = 3; come 0;");
        T.due("9 by the day", x.days(3), 0);
        T.due("9 by the day", x.days(1), 1);
        T.due("17 the day", x.child(0, 2), 3);
        // The child's own way is asked behind the changes: by then hope is 35, and the other one is the louder.
        x = new UnbornBells();
        x.bell(0, 10, 50, 40);
        x.bell(0, 22, 45, 0);
        x.set(0, 0, 0);
        Checks.tell(x, 0, "ring 0 at 7 for 1; ring 1 at 7 for 1;");
        Checks.tell(x, 1, "loud 20 when hope = 35; loud weight;");
        Checks.tell(x, 2, "come 1000 when pitch = 10; come 0; slack 5;");
        x.days(1);
        T.due("17 astray by hope as it is then", x.child(0, 1), 1);
    }

    private static void bellByBell() {
        // Both drown each other; once the first hangs the second is clear that same day.
        UnbornBells x = new UnbornBells();
        x.bell(0, 10, 50, 40);
        x.bell(0, 10, 50, 40);
        Checks.tell(x, 0, "ring 0 at 7 for 1; ring 1 at 7 for 1;");
        Checks.tell(x, 2, "come 1000 when pitch = 10 and clear = 0; come 0;");
        T.due("9 only the first", x.days(1), 1);
        T.due("9 the second is clear", x.of(1, 9), Checks.set(7));
        Checks.tell(x, 2, "come 1000;");
        T.due("9 the second on the next day", x.days(1), 1);
        T.due("17 its day", x.child(1, 2), 1);
        T.due("17 its own", x.child(1, 0), 1);
        x = new UnbornBells();
        x.bell(0, 10, 50, 40);
        x.bell(0, 22, 90, 40);
        Checks.tell(x, 0, "ring 0 at 7 for 1; ring 1 at 7 for 1;");
        Checks.tell(x, 2, "come 1000;");
        T.due("9 both", x.days(1), 2);
        T.due("17 the first is led astray", x.child(0, 1), 1);
        T.due("17 the second is not", x.child(1, 1), 1);
        x = new UnbornBells();
        x.bell(0, 22, 90, 40);
        x.bell(0, 10, 50, 40);
        Checks.tell(x, 0, "ring 0 at 7 for 1; ring 1 at 7 for 1;");
        Checks.tell(x, 2, "come 1000;");
        T.due("9 both", x.days(1), 2);
        T.due("17 the one that hangs leads none astray", x.child(1, 1), 1);
    }

    private static void cameWhere() {
        // Bell 0 sounds 3, 4, 5; drowned at 3 by 1; at 4 an octave (2) is louder, at 5 another (3).
        UnbornBells x = new UnbornBells();
        x.bell(0, 10, 50, 40);
        x.bell(0, 11, 50, 40);
        x.bell(0, 22, 60, 40);
        x.bell(0, 34, 70, 40);
        Checks.tell(x, 0, "ring 0 at 3 for 3; ring 1 at 3 for 1; ring 2 at 4 for 1; ring 3 at 5 for 1;");
        Checks.tell(x, 2, "come 1000 when pitch = 10; come 0;");
        T.due("9 one", x.days(1), 1);
        T.due("17 by its first clear hour", x.child(0, 1), 2);
        // Without a clear hour by its first hour, from 0 on.
        x = new UnbornBells();
        x.bell(0, 10, 50, 40);
        x.bell(0, 11, 50, 40);
        x.bell(0, 22, 60, 40);
        x.bell(0, 34, 70, 40);
        Checks.tell(x, 0, "ring 0 at 23 for 2; ring 1 at 23 for 2; ring 2 at 23 for 1; ring 3 at 0 for 1;");
        Checks.tell(x, 2, "come 1000 when pitch = 10; come 0;");
        T.due("9 one", x.days(1), 1);
        T.due("17 by its first hour", x.child(0, 1), 3);
        T.due("17 own", x.child(0, 0), 0);
        T.due("17 the day", x.child(0, 2), 0);
        int[][] wrong = {{1, 0}, {-1, 0}, {0, 3}, {0, -1}, {Integer.MAX_VALUE, 0}};
        for (int[] w : wrong) {
            T.due("17 child " + w[0] + " " + w[1], x.child(w[0], w[1]), NONE);
        }
    }

    private static void twins() {
        UnbornBells x = new UnbornBells();
        x.bell(0, 10, 50, 40);
        x.bell(0, 22, 90, 40);
        x.set(4, 0, 1);
        Checks.tell(x, 0, "ring 0 at 7 for 1; ring 1 at 7 for 1;");
        Checks.tell(x, 2, "come 1000 when cracked = 1; come 0;");
        T.due("9 two of one bell", x.days(1), 2);
        T.due("17 one draw", x.look(7), next(0));
        T.due("17 the first came astray", x.child(0, 1), 1);
        T.due("17 the second to its own", x.child(1, 1), 0);
        T.due("17 own", x.child(1, 0), 0);
        T.due("18 two lines", x.look(6), 2);
        int[] line = {0, 0, 0, 1};
        for (int what = 0; what < 4; what++) {
            T.due("18 book(0, " + what + ")", x.book(0, what), line[what]);
        }
        T.due("18 book(1, 3)", x.book(1, 3), 0);
    }

    private static void twentyChildren() {
        UnbornBells x = new UnbornBells();
        for (int i = 0; i < 10; i++) {
            x.bell(0, 4 * i, 50, 40);
            x.set(4, i, 1);
        }
        x.set(4, 0, 0);
        x.set(0, 0, 0);
        StringBuilder hours = new StringBuilder();
        for (int i = 0; i < 10; i++) {
            hours.append("ring ").append(i).append(" at ").append(i).append(" for 1;");
        }
        Checks.tell(x, 0, hours.toString());
        Checks.tell(x, 2, "come 1000;");
        T.due("9 nineteen", x.days(1), 19);
        T.due("9 nineteen", x.look(1), 19);
        x = new UnbornBells();
        for (int i = 0; i < 10; i++) {
            x.bell(0, 4 * i, 50, 40);
            x.set(4, i, 1);
        }
        x.set(0, 0, 0);
        Checks.tell(x, 0, hours.toString());
        Checks.tell(x, 2, "come 1000;");
        T.due("9 twenty", x.days(1), 20);
        T.due("9 twenty", x.look(1), 20);
        T.due("17 the last", x.child(19, 0), 9);
        T.due("17 no more", x.child(20, 0), NONE);
        T.due("18 twenty lines", x.look(6), 20);
        for (int i = 0; i < 10; i++) {
            T.due("9 it hangs", x.of(i, 6), 1);
        }
    }

    private static void theBook() {
        UnbornBells x = new UnbornBells();
        x.bell(0, 0, 50, 40);
        x.bell(0, 10, 50, 40);
        x.bell(0, 20, 50, 40);
        Checks.tell(x, 0, "ring 0 at 1 for 1; ring 1 at 2 for 1;");
        Checks.tell(x, 2, "come 1000;");
        T.due("18 none", x.book(0, 0), NONE - 1);
        x.days(2);
        x.swap(1, 0);
        x.melt(2);
        int[][] lines = {{0, 0, 0, 0}, {0, 0, 1, 1}, {2, 2, 1, 0}, {2, 1, 2, NONE}};
        T.due("18 four", x.look(6), 4);
        for (int i = 0; i < 4; i++) {
            for (int what = 0; what < 4; what++) {
                T.due("18 book(" + i + ", " + what + ")", x.book(i, what), lines[i][what]);
            }
        }
        int[][] wrong = {{4, 0}, {-1, 0}, {0, 4}, {0, -1}, {Integer.MIN_VALUE, 0}};
        for (int[] w : wrong) {
            T.due("18 book " + w[0] + " " + w[1], x.book(w[0], w[1]), NONE - 1);
        }
        for (int i = 4; i < 120; i++) {
            T.yes("18 swap", x.swap(0, 1));
        }
        T.due("18 full", x.look(6), 120);
        T.due("18 the last line", x.book(119, 1), 2);
        T.yes("18 swap all the same", x.swap(0, 1));
        T.due("18 full", x.look(6), 120);
        T.due("18 it was done", x.child(0, 1), 0);
        T.due("18 it was done", x.child(1, 1), 1);
        T.due("18 no such line", x.book(120, 0), NONE - 1);
        T.yes("18 melt all the same", x.melt(0));
        T.due("18 full", x.look(6), 120);
        T.yes("18 undone", x.undo());
        T.due("18 full", x.look(6), 120);
        T.yes("18 undone", x.undo());
        T.due("18 full", x.look(6), 120);
        T.yes("18 undone", x.undo());
        T.due("18 no more full", x.look(6), 119);
    }
}
