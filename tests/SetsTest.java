/** Promises 21 to 23, 37, 40, 42: which bells go together. */
public final class SetsTest {
    private static final Checks T = new Checks("SetsTest");
    private static final int NONE = UnbornBells.NONE;

    public static void main(String[] args) {
        rows();
        rowsOfTen();
        melts();
        siblings();
        raised();
        octaves();
        peals();
        T.close();
    }

    private static UnbornBells ofPitches(int near, int... pitches) {
        UnbornBells x = new UnbornBells();
        for (int pitch : pitches) {
            x.bell(0, pitch, 10, 10);
        }
        x.set(0, 0, near);
        return x;
    }

    private static void rows(UnbornBells x, int m, int fewest, int... hours) {
        T.due("21 rows(" + m + ", 0)", x.rows(m, 0), fewest);
        for (int b = 0; b < hours.length; b++) {
            T.due("21 rows(" + m + ", 10 + " + b + ")", x.rows(m, 10 + b), hours[b]);
        }
        T.due("21 no such bell", x.rows(m, 10 + hours.length), NONE);
    }

    private static void rows() {
        rows(new UnbornBells(), 1, 0);
        T.due("21 m can't be, though none is needed", new UnbornBells().rows(0, 0), NONE);
        rows(ofPitches(2, 5), 1, 1, 0);
        rows(ofPitches(2, 5, 7), 1, 1, 0, 0);
        rows(ofPitches(3, 5, 7), 2, 2, 0, 1);
        rows(ofPitches(3, 5, 7), 10, 2, 0, 1);
        rows(ofPitches(3, 5, 7), 1, NONE, NONE, NONE);
        rows(ofPitches(0, 5, 5, 5), 1, 1, 0, 0, 0);
        rows(ofPitches(1, 5, 5, 5), 3, 3, 0, 1, 2);
        rows(ofPitches(1, 5, 5, 5), 2, NONE, NONE, NONE, NONE);
        // Near 4: 0 - 3 - 6 - 9 in a chain. In the order 0, 9, 3, 6 the lesser hour for 9 leaves 3 and 6 no two hours.
        rows(ofPitches(4, 0, 9, 3, 6), 5, 2, 0, 1, 1, 0);
        rows(ofPitches(4, 0, 3, 6, 9), 5, 2, 0, 1, 0, 1);
        rows(ofPitches(12, 47, 36, 20, 31), 5, 2, 0, 1, 1, 0);
        UnbornBells x = ofPitches(3, 5, 6, 7, 20);
        x.melt(1);
        rows(x, 4, 2, 0, NONE, 1, 0);
        Checks.tell(x, 0, "ring 2 at 1 for 1;");
        Checks.tell(x, 2, "come 1000;");
        x.days(1);
        rows(x, 4, 1, 0, NONE, NONE, 0);
        x = ofPitches(3, 5, 6);
        int[][] wrong = {{0, 0}, {11, 0}, {-1, 0}, {5, 1}, {5, 9}, {5, -1}, {5, 12}, {5, 20}, {5, Integer.MIN_VALUE},
            {5, Integer.MIN_VALUE + 10}, {5, Integer.MAX_VALUE}};
        for (int[] w : wrong) {
            T.due("21 rows " + w[0] + " " + w[1], x.rows(w[0], w[1]), NONE);
        }
    }

    private static void rowsOfTen() {
        UnbornBells x = ofPitches(12, 0, 1, 2, 3, 4, 5, 6, 7, 8, 9);
        rows(x, 10, 10, 0, 1, 2, 3, 4, 5, 6, 7, 8, 9);
        rows(x, 9, NONE, NONE, NONE, NONE, NONE, NONE, NONE, NONE, NONE, NONE, NONE);
        rows(ofPitches(5, 0, 4, 8, 12, 16, 20, 24, 28, 32, 36), 3, 2, 0, 1, 0, 1, 0, 1, 0, 1, 0, 1);
        rows(ofPitches(12, 40, 40, 40, 40, 40, 0, 0, 0, 0, 0), 5, 5, 0, 1, 2, 3, 4, 0, 1, 2, 3, 4);
    }

    private static void melts() {
        UnbornBells x = new UnbornBells();
        x.bell(0, 0, 10, 5);
        x.bell(0, 0, 20, 8);
        x.bell(0, 0, 30, 13);
        x.bell(0, 0, 10, 5);
        x.bell(0, 0, 1, 0);
        int[][] dues = {{1, 0, 16}, {2, 5, 1}, {10, 5, 1}, {11, 5, 17}, {12, 8, 2}, {20, 8, 2}, {21, 8, 18}, {22, 13, 4},
            {30, 13, 4}, {31, 13, 20}, {40, 18, 5}, {70, 31, 15}, {71, 31, 31}};
        for (int[] d : dues) {
            T.due("22 melts(" + d[0] + ", 0)", x.melts(d[0], 0), d[1]);
            T.due("22 melts(" + d[0] + ", 1)", x.melts(d[0], 1), d[2]);
        }
        T.due("22 all are not enough", x.melts(72, 0), NONE);
        T.due("22 all are not enough", x.melts(72, 1), NONE);
        x.set(3, 2, 14);
        T.due("22 two do less harm than one", x.melts(30, 1), 3);
        T.due("22 of several sets the least", x.melts(20, 1), 2);
        x.set(3, 1, 10);
        T.due("22 of as much harm the fewest", x.melts(20, 1), 2);
        x.set(3, 1, 11);
        T.due("22 two that do less", x.melts(20, 1), 9);
        x.set(3, 1, 8);
        x.set(3, 2, 13);
        int[][] wrong = {{0, 0}, {1000, 0}, {-1, 1}, {10, 2}, {10, -1}};
        for (int[] w : wrong) {
            T.due("22 melts " + w[0] + " " + w[1], x.melts(w[0], w[1]), NONE);
        }
        x.melt(4);
        T.due("22 not one that is melted", x.melts(1, 0), 5);
        T.due("22 then fewer", x.melts(71, 0), NONE);
        T.due("22 none is melted in thought", x.of(0, 6), 0);
        x = new UnbornBells();
        T.due("22 no bells", x.melts(1, 0), NONE);
        for (int i = 0; i < 10; i++) {
            x.bell(0, 0, 99, 99);
        }
        T.due("22 all ten", x.melts(990, 1), 1023);
        T.due("22 all ten", x.melts(990, 0), 990);
        T.due("22 more than all ten", x.melts(991, 0), NONE);
        Checks.tell(x, 0, "ring 0 at 1 for 1;");
        Checks.tell(x, 2, "come 1000;");
        x.days(1);
        T.due("22 one that hangs, too", x.melts(990, 1), 1023);
    }

    private static void siblings() {
        UnbornBells x = ofPitches(2, 20, 2, 4, 22, 6, 4, 11, 44, 33);
        T.due("23 how many", x.siblings(2, 0), 3);
        T.due("23 the lowest", x.siblings(2, 1), 2);
        T.due("23 by 11", x.siblings(11, 0), 4);
        T.due("23 by 11", x.siblings(11, 1), 11);
        T.due("23 by 1", x.siblings(1, 0), 1);
        T.due("23 by 1", x.siblings(1, 1), 2);
        T.due("23 by 24", x.siblings(24, 0), 2);
        T.due("23 by 24", x.siblings(24, 1), 20);
        x.melt(1);
        T.due("23 without one", x.siblings(2, 0), 2);
        T.due("23 without one", x.siblings(2, 1), 4);
        x.melt(2);
        T.due("23 another of that pitch", x.siblings(2, 1), 4);
        int[][] wrong = {{0, 0}, {25, 0}, {-1, 0}, {2, 2}, {2, -1}, {Integer.MIN_VALUE, 0}};
        for (int[] w : wrong) {
            T.due("23 siblings " + w[0] + " " + w[1], x.siblings(w[0], w[1]), NONE);
        }
        x = new UnbornBells();
        T.due("23 without bells", x.siblings(5, 0), 0);
        T.due("23 without bells", x.siblings(5, 1), NONE);
        x.bell(0, 47, 1, 1);
        T.due("23 alone at the top", x.siblings(1, 0), 1);
        T.due("23 alone at the top", x.siblings(1, 1), 47);
        x.bell(0, 0, 1, 1);
        T.due("23 of two the lowest", x.siblings(24, 1), 0);
        x.melt(0);
        x.melt(1);
        T.due("23 all are melted", x.siblings(1, 0), 0);
        T.due("23 all are melted", x.siblings(1, 1), NONE);
    }

    private static void raised() {
        UnbornBells x = ofPitches(3, 10, 20, 30, 46);
        T.due("37 to the top but for 46", x.raised(1), 33);
        T.due("37 two", x.raised(3), 23);
        T.due("37 up to the top", x.raised(8), 1);
        T.due("37 all", x.raised(15), 1);
        T.due("37 0 and 2", x.raised(5), 13);
        x.set(5, 3, 45);
        T.due("37 the top is near 45", x.raised(1), 32);
        x.melt(3);
        T.due("37 melted ones are not in the way", x.raised(1), 37);
        T.due("37 one that is melted", x.raised(8), 2);
        x = ofPitches(3, 46, 45);
        T.due("37 not even 0", x.raised(1), NONE);
        T.due("37 not even 0", x.raised(2), NONE);
        T.due("37 both", x.raised(3), 1);
        x = ofPitches(3, 42, 45);
        T.due("37 0", x.raised(1), 0);
        x = ofPitches(0, 10, 47);
        T.due("37 none is near", x.raised(1), 37);
        T.due("37 at the top", x.raised(2), 0);
        x = ofPitches(1, 0);
        T.due("37 47", x.raised(1), 47);
        int[] wrong = {0, 2, 3, -1, Integer.MIN_VALUE, 1024};
        for (int w : wrong) {
            T.due("37 raised(" + w + ")", x.raised(w), NONE);
        }
        T.due("37 no bells", new UnbornBells().raised(0), NONE);
        T.due("37 no bells", new UnbornBells().raised(1), NONE);
        T.due("37 nothing stays", x.of(0, 1), 0);
        x = ofPitches(2, 5, 15, 25, 35, 36, 46, 1, 2, 3, 4);
        T.due("37 all ten", x.raised(1023), 1);
        // 46 leaves 41 to 45 and 5, 15 .. leave their own.
        T.due("37 by steps", x.raised(Checks.set(0, 1)), 28);
    }

    private static void octaves() {
        UnbornBells x = ofPitches(2, 0, 12, 24, 36, 47, 35, 12, 6);
        T.due("40 of the lowest", x.octaves(0), Checks.set(1, 2, 3, 6));
        T.due("40 in the middle", x.octaves(2), Checks.set(0, 1, 3, 6));
        T.due("40 of like pitch", x.octaves(1), Checks.set(0, 2, 3, 6));
        T.due("40 another row", x.octaves(4), Checks.set(5));
        T.due("40 none", x.octaves(7), 0);
        x.melt(6);
        x.melt(0);
        T.due("40 not melted ones", x.octaves(1), Checks.set(2, 3));
        T.due("40 of one that is melted", x.octaves(0), Checks.set(1, 2, 3));
        T.due("40 no such bell", x.octaves(8), NONE);
        T.due("40 no such bell", x.octaves(-1), NONE);
    }

    private static void peals(UnbornBells x, int bells, int count, int... first) {
        T.due("42 peals(" + bells + ", 0)", x.peals(bells, 0), count);
        for (int i = 0; i < first.length; i++) {
            T.due("42 peals(" + bells + ", 10 + " + i + ")", x.peals(bells, 10 + i), first[i]);
        }
        T.due("42 no such bell of the first", x.peals(bells, 10 + first.length), NONE);
    }

    private static void peals() {
        UnbornBells x = ofPitches(2, 0, 1, 2, 3, 20, 30, 40, 47, 10);
        peals(x, 0, 1);
        peals(x, 16, 1, 4);
        peals(x, 3, 0);
        peals(x, 5, 2, 0, 2);
        peals(x, 7, 0);
        peals(x, 15, 2, 1, 3, 0, 2);
        peals(x, Checks.set(0, 1, 4), 2, 0, 4, 1);
        peals(x, Checks.set(4, 5, 6, 7, 8), 120, 4, 5, 6, 7, 8);
        peals(x, Checks.set(0, 1, 8, 4), 12, 0, 4, 1, 8);
        x.set(0, 0, 0);
        peals(x, 255, 40320, 0, 1, 2, 3, 4, 5, 6, 7);
        peals(x, 511, NONE);
        peals(x, 510, 40320, 1, 2, 3, 4, 5, 6, 7, 8);
        x.melt(0);
        peals(x, 3, 2, 0, 1);
        int[][] wrong = {{512, 0}, {-1, 0}, {Integer.MIN_VALUE, 0}, {5, 1}, {5, 9}, {5, -1}, {5, 18}, {5, Integer.MAX_VALUE},
            {5, Integer.MIN_VALUE}, {5, Integer.MIN_VALUE + 10}};
        for (int[] w : wrong) {
            T.due("42 peals " + w[0] + " " + w[1], x.peals(w[0], w[1]), NONE);
        }
        T.due("42 no bells", new UnbornBells().peals(0, 0), 1);
        T.due("42 no bells", new UnbornBells().peals(0, 10), NONE);
        T.due("42 no bells", new UnbornBells().peals(1, 0), NONE);
    }
}
