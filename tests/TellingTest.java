/** Promises 1 to 8: a new object, what is told, and what is done at once. */
public final class TellingTest {
    private static final Checks T = new Checks("TellingTest");
    private static final int NONE = UnbornBells.NONE;

    public static void main(String[] args) {
        aNewObject();
        state();
        far();
        bell();
        setForAll();
        setForBells();
        melt();
        muffle();
        swap();
        T.close();
    }

    /** A parish of three bells whose children (0, 1, 2) have come, each to its own bell. */
    private static UnbornBells withChildren() {
        UnbornBells x = new UnbornBells();
        x.bell(0, 0, 50, 10);
        x.bell(0, 5, 50, 10);
        x.bell(0, 10, 50, 10);
        Checks.tell(x, 0, "ring 0 at 1 for 1; ring 1 at 2 for 1; ring 2 at 3 for 1;");
        Checks.tell(x, 2, "come 1000;");
        T.due("days(1) brings all", x.days(1), 3);
        return x;
    }

    private static void aNewObject() {
        UnbornBells x = new UnbornBells();
        for (int what = 0; what <= 12; what++) {
            T.due("1 look(" + what + ")", x.look(what), what == 3 ? 2 : 0);
        }
        for (int what = 20; what < 36; what++) {
            T.due("1 look(" + what + ")", x.look(what), 0);
        }
        T.due("1 fault(0)", x.fault(0), 0);
        T.due("1 fault(1)", x.fault(1), NONE);
        T.due("1 of", x.of(0, 0), NONE - 1);
        T.due("1 loud", x.loud(0, 0, 0), NONE);
        T.due("1 silence", x.silence(0), 24);
        T.due("1 likeliest", x.likeliest(), NONE);
        T.no("1 undo", x.undo());
        T.no("1 image", x.image(false));
        T.yes("1 the tape is empty", x.end(0));
        T.no("1 the tape has nothing", x.end(1));
        T.due("NONE", UnbornBells.NONE, -1);
    }

    private static void state() {
        UnbornBells x = new UnbornBells();
        T.due("2 what it was", x.state(7), 0);
        T.due("2 what it was then", x.state(Integer.MIN_VALUE), 7);
        T.due("2 look", x.look(7), Integer.MIN_VALUE);
        T.due("2 negative", x.state(-1), Integer.MIN_VALUE);
        T.due("2 look -1", x.look(7), -1);
        x = new UnbornBells();
        x.days(1);
        x.state(0);
        T.due("2 forgets what can be undone", x.look(12), 0);
    }

    private static void far() {
        UnbornBells x = new UnbornBells();
        x.days(1);
        int[][] wrong = {{-1, 0, 5}, {4, 0, 5}, {0, -1, 5}, {0, 4, 5}, {0, 1, -1}, {0, 1, 100}, {0, 0, 0}, {3, 3, 9},
            {Integer.MIN_VALUE, 0, 5}, {0, Integer.MAX_VALUE, 5}};
        for (int[] w : wrong) {
            T.no("3 far " + w[0] + " " + w[1] + " " + w[2], x.far(w[0], w[1], w[2]));
        }
        T.due("3 a refusal forgets nothing", x.look(12), 1);
        T.yes("3 99", x.far(0, 3, 99));
        T.due("3 forgets what can be undone", x.look(12), 0);
        T.due("3 there", x.look(20 + 3), 99);
        T.due("3 back", x.look(20 + 12), 99);
        T.yes("3 the other way", x.far(3, 0, 0));
        T.due("3 there again", x.look(20 + 3), 0);
        T.due("3 back again", x.look(20 + 12), 0);
        T.yes("3 another", x.far(2, 1, 17));
        T.due("3 1 2", x.look(20 + 4 + 2), 17);
        T.due("3 2 1", x.look(20 + 8 + 1), 17);
        T.due("3 2 2", x.look(20 + 8 + 2), 0);
    }

    private static void bell() {
        UnbornBells x = new UnbornBells();
        x.days(1);
        int[][] wrong = {{-1, 0, 1, 0}, {4, 0, 1, 0}, {0, -1, 1, 0}, {0, 48, 1, 0}, {0, 0, 0, 0}, {0, 0, 100, 0},
            {0, 0, 1, -1}, {0, 0, 1, 100}, {Integer.MIN_VALUE, 0, 1, 0}};
        for (int[] w : wrong) {
            T.due("4 bell " + w[0] + " " + w[1] + " " + w[2] + " " + w[3], x.bell(w[0], w[1], w[2], w[3]), NONE);
        }
        T.due("4 none came", x.look(0), 0);
        T.due("4 a refusal forgets nothing", x.look(12), 1);
        T.due("4 first", x.bell(3, 47, 99, 99), 0);
        T.due("4 forgets what can be undone", x.look(12), 0);
        T.due("4 second", x.bell(0, 0, 1, 0), 1);
        int[] first = {3, 47, 99, 99, 0, 0, 0, 0, 0, 0, 0, 0};
        for (int what = 0; what < first.length; what++) {
            T.due("4 of(0, " + what + ")", x.of(0, what), first[what]);
        }
        for (int i = 2; i < 10; i++) {
            T.due("4 bell " + i, x.bell(1, 2, 3, 4), i);
        }
        T.due("4 there are ten", x.bell(1, 2, 3, 4), NONE);
        T.due("4 look", x.look(0), 10);
    }

    private static void setForAll() {
        int[] most = {12, 9, 1000};
        for (int what = 0; what < 3; what++) {
            UnbornBells x = new UnbornBells();
            x.days(1);
            T.no("5 below", x.set(what, 0, -1));
            T.no("5 above " + what, x.set(what, 0, most[what] + 1));
            T.due("5 a refusal forgets nothing", x.look(12), 1);
            T.yes("5 most " + what, x.set(what, 0, most[what]));
            T.due("5 forgets what can be undone", x.look(12), 0);
            T.due("5 look " + what, x.look(3 + what), most[what]);
            T.yes("5 who is not asked", x.set(what, -77, 0));
            T.due("5 least " + what, x.look(3 + what), 0);
        }
        UnbornBells x = new UnbornBells();
        x.bell(0, 0, 1, 0);
        T.no("5 another what", x.set(-1, 0, 1));
        T.no("5 another what", x.set(6, 0, 1));
        T.no("5 another what", x.set(Integer.MIN_VALUE, 0, 1));
        T.no("5 another what", x.set(Integer.MAX_VALUE, 0, 1));
    }

    private static void setForBells() {
        int[] most = {99, 1, 47};
        int[] of = {3, 4, 1};
        for (int k = 0; k < 3; k++) {
            int what = 3 + k;
            UnbornBells x = new UnbornBells();
            x.bell(0, 5, 6, 7);
            x.bell(0, 8, 6, 9);
            x.days(1);
            T.no("5 no such bell", x.set(what, 2, 1));
            T.no("5 no such bell", x.set(what, -1, 1));
            T.no("5 below", x.set(what, 1, -1));
            T.no("5 above", x.set(what, 1, most[k] + 1));
            T.due("5 a refusal forgets nothing", x.look(12), 1);
            int other = x.of(0, of[k]);
            T.yes("5 most", x.set(what, 1, most[k]));
            T.due("5 forgets what can be undone", x.look(12), 0);
            T.due("5 of it", x.of(1, of[k]), most[k]);
            T.due("5 not of the other", x.of(0, of[k]), other);
            T.yes("5 least", x.set(what, 1, 0));
            T.due("5 of it", x.of(1, of[k]), 0);
            x.melt(1);
            T.yes("5 of one that is melted", x.set(what, 1, 1));
        }
    }

    private static void melt() {
        UnbornBells x = withChildren();
        x.bell(1, 20, 5, 5);
        Checks.tell(x, 0, "ring 3 at 4 for 2;");
        T.no("6 no such bell", x.melt(4));
        T.no("6 no such bell", x.melt(-1));
        T.due("6 sounds", x.of(3, 8), Checks.set(4, 5));
        T.yes("6 one that is rung", x.melt(3));
        T.due("6 it is melted", x.of(3, 6), 2);
        T.due("6 it sounds no more", x.of(3, 8), 0);
        T.no("6 it is melted already", x.melt(3));
        T.due("6 it hangs", x.of(0, 6), 1);
        T.yes("6 one that hangs", x.melt(0));
        T.due("6 it is melted", x.of(0, 6), 2);
        T.due("6 the book", x.look(6), 5);
        int[] lines = {1, 1, 3, NONE};
        for (int what = 0; what < 4; what++) {
            T.due("6 book(3, " + what + ")", x.book(3, what), lines[what]);
        }
        T.due("6 book(4, 2)", x.book(4, 2), 0);
        T.due("6 two can be undone", x.look(12), 2);
    }

    private static void muffle() {
        UnbornBells x = withChildren();
        x.bell(1, 20, 5, 5);
        T.no("7 no such bell", x.muffle(4, true));
        T.no("7 no such bell", x.muffle(-1, false));
        T.no("7 it is not muffled", x.muffle(3, false));
        T.yes("7 rung", x.muffle(3, true));
        T.yes("7 it hangs", x.muffle(0, true));
        T.due("7 muffled", x.of(3, 5), 1);
        T.no("7 it is so", x.muffle(3, true));
        T.yes("7 no more", x.muffle(3, false));
        T.due("7 not muffled", x.of(3, 5), 0);
        T.due("7 three can be undone", x.look(12), 3);
        T.due("7 nothing in the book", x.look(6), 3);
        x.melt(3);
        T.no("7 a melted one can't be", x.muffle(3, true));
        T.due("7 not muffled", x.of(3, 5), 0);
    }

    private static void swap() {
        UnbornBells x = withChildren();
        T.no("8 alike", x.swap(1, 1));
        T.no("8 no such child", x.swap(0, 3));
        T.no("8 no such child", x.swap(3, 0));
        T.no("8 no such child", x.swap(-1, 0));
        T.no("8 no such child", x.swap(0, NONE));
        T.due("8 the book", x.look(6), 3);
        T.yes("8 two", x.swap(2, 0));
        T.due("8 came of 0", x.child(0, 1), 2);
        T.due("8 came of 1", x.child(1, 1), 1);
        T.due("8 came of 2", x.child(2, 1), 0);
        T.due("8 own of 0", x.child(0, 0), 0);
        T.due("8 own of 2", x.child(2, 0), 2);
        int[] line = {1, 2, 2, 0};
        for (int what = 0; what < 4; what++) {
            T.due("8 book(3, " + what + ")", x.book(3, what), line[what]);
        }
        T.yes("8 back", x.swap(0, 2));
        T.due("8 came of 0", x.child(0, 1), 0);
        T.yes("8 once more", x.swap(0, 1));
        T.due("8 came of 0", x.child(0, 1), 1);
        T.due("8 came of 1", x.child(1, 1), 0);
        x = new UnbornBells();
        T.no("8 no children", x.swap(0, 1));
    }
}
