/** Promises 28 to 30, 35, 36, 39: when to stop, how late, how loud, how likely. */
public final class ChanceTest {
    private static final Checks T = new Checks("ChanceTest");
    private static final int NONE = UnbornBells.NONE;

    public static void main(String[] args) {
        stop();
        late();
        louder();
        likeliest();
        noneYet();
        hopes();
        T.close();
    }

    private static UnbornBells oneBell(int hope, String coming) {
        UnbornBells x = new UnbornBells();
        x.bell(0, 10, 50, hope);
        Checks.tell(x, 0, "ring 0 at 7 for 1;");
        Checks.tell(x, 2, coming);
        return x;
    }

    private static void stop() {
        UnbornBells x = oneBell(40, "come 1000; slack 7;");
        // 40, 33, 26, 19, 12, 5, 0, 0 ..
        T.due("28 at once", x.stop(0, 41), 0);
        T.due("28 not at the price", x.stop(0, 40), 1);
        T.due("28 later", x.stop(0, 26), 3);
        T.due("28 by 1", x.stop(0, 1), 6);
        T.due("28 never by 0", x.stop(0, 0), NONE);
        T.due("28 the highest price", x.stop(0, 99), 0);
        x = oneBell(99, "come 999; slack 1;");
        // 99 times 999 by 1000 is 98 and a part.
        T.due("28 downwards", x.stop(0, 99), 0);
        T.due("28 downwards", x.stop(0, 98), 1);
        T.due("28 the last day", x.stop(0, 1), 98);
        x = oneBell(99, "come 1000; slack 1;");
        T.due("28 day 99", x.stop(0, 1), 99);
        x = oneBell(99, "come 1000; slack 0;");
        T.due("28 in none", x.stop(0, 99), NONE);
        x = oneBell(99, "come 0;");
        T.due("28 no hope of coming", x.stop(0, 1), 0);
        T.due("28 but 0 is not below 0", x.stop(0, 0), NONE);
        x = oneBell(50, "come hope * 20; slack hope / 5;");
        // COME 1000 and SLACK 10 as now each day: 50, 40, 30 ..
        T.due("28 come and slack as now", x.stop(0, 31), 2);
        int[][] wrong = {{-1, 5}, {1, 5}, {0, -1}, {0, 100}, {0, Integer.MIN_VALUE}};
        for (int[] w : wrong) {
            T.due("28 stop " + w[0] + " " + w[1], x.stop(w[0], w[1]), NONE);
        }
        T.due("28 nothing stays", x.of(0, 3), 50);
    }

    private static void late() {
        UnbornBells x = oneBell(40, "come 333;");
        T.due("29 no day", x.late(0, 0), 1000000);
        T.due("29 one", x.late(0, 1), 667000);
        T.due("29 two", x.late(0, 2), 444889);
        T.due("29 three, downwards", x.late(0, 3), 296740);
        T.due("29 four, downwards each", x.late(0, 4), 197925);
        T.due("29 99", x.late(0, 99), 0);
        x = oneBell(40, "come 0;");
        T.due("29 never", x.late(0, 99), 1000000);
        x = oneBell(40, "come 1000;");
        T.due("29 at once", x.late(0, 1), 0);
        int[][] wrong = {{-1, 5}, {1, 5}, {0, -1}, {0, 100}};
        for (int[] w : wrong) {
            T.due("29 late " + w[0] + " " + w[1], x.late(w[0], w[1]), NONE);
        }
    }

    private static void louder() {
        UnbornBells x = new UnbornBells();
        T.due("30 as they are", x.louder(12, 34, 9, 999, 0, 0), 12);
        T.due("30 as they are", x.louder(12, 34, 9, 999, 0, 1), 34);
        // 7 + 3 * 5 / 4 = 10, 7 + 3 * 11 / 4 = 15; then 7 + 45 / 4 = 18, 7 + 30 / 4 = 14.
        T.due("30 one day", x.louder(11, 5, 3, 7, 1, 0), 10);
        T.due("30 both at once", x.louder(11, 5, 3, 7, 1, 1), 15);
        T.due("30 two days", x.louder(11, 5, 3, 7, 2, 0), 18);
        T.due("30 two days", x.louder(11, 5, 3, 7, 2, 1), 14);
        T.due("30 999 at most", x.louder(999, 0, 9, 999, 1, 0), 999);
        T.due("30 999 at most", x.louder(999, 999, 9, 0, 60, 1), 999);
        T.due("30 999 at most", x.louder(999, 999, 9, 0, 60, 0), 999);
        T.due("30 rest at once", x.louder(0, 0, 5, 0, 0, 2), 1);
        T.due("30 rest of what is told", x.louder(7, 7, 0, 7, 0, 2), 1);
        T.due("30 rest on the second day", x.louder(7, 8, 0, 7, 0, 2), 2);
        T.due("30 both, not one", x.louder(100, 60, 4, 0, 0, 2), NONE);
        T.due("30 n is not asked", x.louder(7, 8, 0, 7, -5, 2), 2);
        T.due("30 n is not asked", x.louder(7, 8, 0, 7, 61, 2), 2);
        // One grows by 8 each day from 0, 0: 480 after 60 days, at rest at 999 only later.
        T.due("30 not within 60", x.louder(0, 0, 4, 8, 0, 2), NONE);
        // By 17: 58 * 17 = 986, then 999 on day 59, at rest on day 60.
        T.due("30 on day 60", x.louder(0, 0, 4, 17, 0, 2), 60);
        T.due("30 the 60th day", x.louder(0, 0, 4, 8, 60, 0), 480);
        int[][] wrong = {{-1, 0, 0, 0, 0, 0}, {1000, 0, 0, 0, 0, 0}, {0, -1, 0, 0, 0, 0}, {0, 1000, 0, 0, 0, 0},
            {0, 0, -1, 0, 0, 0}, {0, 0, 10, 0, 0, 0}, {0, 0, 0, -1, 0, 0}, {0, 0, 0, 1000, 0, 0}, {0, 0, 0, 0, -1, 0},
            {0, 0, 0, 0, 61, 1}, {0, 0, 0, 0, 0, 3}, {0, 0, 0, 0, 0, -1}, {1000, 0, 0, 0, 0, 2}, {0, 0, 10, 0, 0, 2}};
        for (int[] w : wrong) {
            T.due("30 louder " + java.util.Arrays.toString(w), x.louder(w[0], w[1], w[2], w[3], w[4], w[5]), NONE);
        }
    }

    private static UnbornBells three(String coming) {
        UnbornBells x = new UnbornBells();
        x.bell(0, 10, 50, 40);
        x.bell(0, 20, 60, 40);
        x.bell(0, 30, 60, 40);
        x.bell(0, 40, 99, 40);
        Checks.tell(x, 0, "ring 0 at 7 for 1; ring 1 at 8 for 2; ring 2 at 9 for 2;");
        Checks.tell(x, 2, coming);
        return x;
    }

    private static void likeliest() {
        T.due("35 of several the least", three("come weight;").likeliest(), 1);
        T.due("35 the greatest", three("come pitch;").likeliest(), 2);
        T.due("35 all alike", three("come 0;").likeliest(), 0);
        T.due("35 by clear hours", three("").likeliest(), 1);
        UnbornBells x = three("come weight;");
        x.melt(1);
        x.melt(2);
        T.due("35 one that sounds", x.likeliest(), 0);
        x.melt(0);
        T.due("35 none sounds", x.likeliest(), NONE);
    }

    private static void noneYet() {
        UnbornBells x = three("come weight * 3 + pitch;");
        // 160, 200, 210: 840000, 672000, 530880; then 445939, 356751, 281833.
        T.due("36 no day", x.noneYet(0), 1000000);
        T.due("36 one", x.noneYet(1), 530880);
        T.due("36 two, downwards each time", x.noneYet(2), 281833);
        T.due("36 99", x.noneYet(99), 0);
        T.due("36 n can't be", x.noneYet(-1), NONE);
        T.due("36 n can't be", x.noneYet(100), NONE);
        x.melt(1);
        T.due("36 but two", x.noneYet(1), 663600);
        T.due("36 none sounds", new UnbornBells().noneYet(99), 1000000);
        T.due("36 come 0", three("come 0;").noneYet(99), 1000000);
    }

    private static void hopes() {
        T.due("39 in even parts", oneBell(40, "slack 8;").hopes(0), 5);
        T.due("39 with a rest", oneBell(41, "slack 8;").hopes(0), 6);
        T.due("39 at once", oneBell(41, "slack 99;").hopes(0), 1);
        T.due("39 day by day", oneBell(99, "slack 1;").hopes(0), 99);
        T.due("39 never", oneBell(41, "slack 0;").hopes(0), NONE);
        T.due("39 never, by no line", oneBell(41, "").hopes(0), NONE);
        T.due("39 it is", oneBell(0, "slack 0;").hopes(0), 0);
        T.due("39 it is", oneBell(0, "slack 5;").hopes(0), 0);
        T.due("39 slack as now", oneBell(40, "slack hope / 4;").hopes(0), 4);
        T.due("39 no such bell", oneBell(40, "slack 8;").hopes(1), NONE);
        T.due("39 no such bell", oneBell(40, "slack 8;").hopes(-1), NONE);
    }
}
