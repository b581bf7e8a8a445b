/** Promises 24 to 27, 41: which child is at which bell. */
public final class ChildrenTest {
    private static final Checks T = new Checks("ChildrenTest");
    private static final int NONE = UnbornBells.NONE;

    public static void main(String[] args) {
        rightByOneSwap();
        rightInARing();
        rightThroughAnother();
        rightOfTwins();
        rightStuck();
        rightFromTheLeast();
        rightAnew();
        turns();
        fits();
        ask();
        eldest();
        T.close();
    }

    /** As many bells, each with its child; bells of even number are of tower 0, the others of tower 1. */
    private static UnbornBells withChildren(int n) {
        UnbornBells x = new UnbornBells();
        StringBuilder hours = new StringBuilder();
        for (int i = 0; i < n; i++) {
            x.bell(i % 2, 5 * i % 48, 50, 10);
            hours.append("ring ").append(i).append(" at ").append(2 * i).append(" for 3;");
        }
        x.set(0, 0, 0);
        Checks.tell(x, 0, hours.toString());
        Checks.tell(x, 2, "come 1000;");
        T.due("9 all come", x.days(1), n);
        for (int i = 0; i < n; i++) {
            T.due("17 each to its own", x.child(i, 1), i);
        }
        return x;
    }

    private static void right(UnbornBells x, int wrong, int swaps, int right) {
        T.due("24 wrong", x.right(0), wrong);
        T.due("24 swaps", x.right(1), swaps);
        T.due("24 right then", x.right(2), right);
    }

    private static void rightByOneSwap() {
        UnbornBells x = withChildren(4);
        right(x, 0, 0, 4);
        x.swap(1, 3);
        right(x, Checks.set(1, 3), 1, 4);
        T.due("24 nothing is swapped", x.child(1, 1), 3);
        T.due("24 nothing in the book", x.look(6), 5);
        T.due("24 another what", x.right(3), NONE);
        T.due("24 another what", x.right(-1), NONE);
        x = new UnbornBells();
        right(x, 0, 0, 0);
    }

    private static void rightInARing() {
        UnbornBells x = withChildren(5);
        x.swap(0, 1);
        x.swap(1, 2);
        x.swap(2, 3);
        right(x, Checks.set(0, 1, 2, 3), 3, 5);
        x.swap(3, 4);
        right(x, 31, 4, 5);
    }

    /** Children a, b, c of one bell and others: who swaps first decides how many swaps there are. */
    private static void rightThroughAnother() {
        UnbornBells x = new UnbornBells();
        for (int i = 0; i < 3; i++) {
            x.bell(0, 5 * i, 50, 10);
        }
        x.set(4, 0, 1);
        x.set(4, 1, 1);
        x.set(0, 0, 0);
        Checks.tell(x, 0, "ring 0 at 0 for 1; ring 1 at 1 for 1; ring 2 at 2 for 1;");
        Checks.tell(x, 2, "come 1000;");
        T.due("9 twins", x.days(1), 5);
        // OWN 0 0 1 1 2. CAME: child 0 to 1, 2 to 2, 4 to 0, 3 to 0, 1 to 1.
        x.swap(0, 2);
        x.swap(2, 4);
        x.swap(1, 3);
        int[] came = {1, 1, 2, 0, 0};
        for (int i = 0; i < 5; i++) {
            T.due("17 came of " + i, x.child(i, 1), came[i]);
        }
        // Child 0 wants 0: 3 (its own is 1) and 4 have it; 3 sets both right. Then 1 by 4 (of 2): 1 to 0, 4 to 1; then 2 and 4.
        right(x, 31, 3, 5);
        // CAME: child 0 to 1, child 4 to 0, 2 to 2 without 1 and 3.
        x.swap(1, 3);
        right(x, Checks.set(0, 2, 4), 2, 5);
    }

    /** The b whose own is where a is goes ahead of a lesser b. */
    private static void rightOfTwins() {
        UnbornBells x = new UnbornBells();
        for (int i = 0; i < 3; i++) {
            x.bell(0, 5 * i, 50, 10);
        }
        x.set(4, 0, 1);
        x.set(0, 0, 0);
        Checks.tell(x, 0, "ring 0 at 0 for 1; ring 1 at 1 for 1; ring 2 at 2 for 1;");
        Checks.tell(x, 2, "come 1000;");
        T.due("9 twins", x.days(1), 4);
        // OWN 0 0 1 2. CAME 2 1 0 0: child 0 goes with 3 (own 2), though 2 is less.
        x.swap(0, 3);
        x.swap(1, 2);
        right(x, 15, 2, 4);
        // CAME 1 2 0 0: child 0 goes with 2, child 1 with 3.
        x.swap(0, 1);
        right(x, 15, 2, 4);
        // CAME 2 0 1 0: 1 and 2 are right.
        x = new UnbornBells();
        for (int i = 0; i < 4; i++) {
            x.bell(0, 5 * i, 50, 10);
        }
        x.set(4, 0, 1);
        x.set(0, 0, 0);
        Checks.tell(x, 0, "ring 0 at 0 for 1; ring 1 at 1 for 1; ring 2 at 2 for 1; ring 3 at 3 for 1;");
        Checks.tell(x, 2, "come 1000;");
        T.due("9 twins", x.days(1), 5);
        // OWN 0 0 1 2 3. CAME 3 1 2 0 0: of 3 and 4 child 0 takes 4 (own 3): 0 3 right; then 1 2 3 in a ring of three.
        x.swap(0, 4);
        x.swap(1, 2);
        x.swap(2, 3);
        int[] came = {3, 1, 2, 0, 0};
        for (int i = 0; i < 5; i++) {
            T.due("17 came of " + i, x.child(i, 1), came[i]);
        }
        right(x, 31, 3, 5);
    }

    /** Two that went astray to one bell: none has what they want. */
    private static void rightStuck() {
        UnbornBells x = new UnbornBells();
        x.bell(0, 0, 50, 10);
        x.bell(0, 12, 60, 10);
        x.bell(0, 24, 70, 10);
        x.set(0, 0, 0);
        Checks.tell(x, 0, "ring 0 at 1 for 1; ring 1 at 1 for 1; ring 2 at 1 for 1;");
        Checks.tell(x, 2, "come 1000;");
        T.due("9 three", x.days(1), 3);
        right(x, Checks.set(0, 1), 0, 1);
        // CAME 2 2 2; nothing helps.
        x.swap(0, 2);
        right(x, Checks.set(0, 1), 0, 1);
        x = new UnbornBells();
        x.bell(0, 0, 50, 10);
        x.bell(0, 5, 60, 10);
        x.bell(0, 12, 70, 10);
        x.set(0, 0, 0);
        Checks.tell(x, 0, "ring 0 at 1 for 1; ring 1 at 2 for 1; ring 2 at 1 for 1;");
        Checks.tell(x, 2, "come 1000;");
        T.due("9 three", x.days(1), 3);
        // CAME 2 1 2, then 1 2 2: child 1 wants 1, which 0 has, and 0 wants 0, which none has.
        x.swap(0, 1);
        right(x, Checks.set(0, 1), 1, 2);
    }

    /** Swaps until the children came to these. */
    private static void bring(UnbornBells x, int... came) {
        for (int i = 0; i < came.length; i++) {
            for (int j = i + 1; j < came.length && x.child(i, 1) != came[i]; j++) {
                if (x.child(j, 1) == came[i]) {
                    x.swap(i, j);
                }
            }
            T.due("17 came of " + i, x.child(i, 1), came[i]);
        }
    }

    private static UnbornBells withTwinsOfTheFirst(int n) {
        UnbornBells x = new UnbornBells();
        StringBuilder hours = new StringBuilder();
        for (int i = 0; i < n; i++) {
            x.bell(0, 4 * i, 50, 10);
            hours.append("ring ").append(i).append(" at ").append(i).append(" for 1;");
        }
        x.set(4, 0, 1);
        x.set(0, 0, 0);
        Checks.tell(x, 0, hours.toString());
        Checks.tell(x, 2, "come 1000;");
        T.due("9 all come", x.days(1), n + 1);
        return x;
    }

    private static void rightFromTheLeast() {
        UnbornBells x = withTwinsOfTheFirst(4);
        // OWN 0 0 1 2 3. From child 0 on: with 2, 1 with 3, 2 with 3, 3 with 4. From child 1 on it would be three.
        bring(x, 3, 1, 0, 0, 2);
        right(x, 31, 4, 5);
    }

    /** Each answer is of what is now, whatever was asked ahead of it. */
    private static void rightAnew() {
        UnbornBells x = withChildren(6);
        T.due("24 right then", x.right(2), 6);
        bring(x, 1, 2, 0, 3, 5, 4);
        T.due("24 right then", x.right(2), 6);
        T.due("24 swaps", x.right(1), 3);
        T.due("24 swaps again", x.right(1), 3);
        T.due("24 wrong", x.right(0), Checks.set(0, 1, 2, 4, 5));
        bring(x, 0, 1, 2, 3, 5, 4);
        T.due("24 swaps", x.right(1), 1);
        T.due("24 wrong", x.right(0), Checks.set(4, 5));
        x.undo();
        T.due("24 wrong", x.right(0) == Checks.set(4, 5) ? 1 : 0, 0);
        x = new UnbornBells();
        x.bell(0, 0, 50, 10);
        x.bell(0, 12, 60, 10);
        x.set(0, 0, 0);
        Checks.tell(x, 0, "ring 0 at 1 for 1; ring 1 at 1 for 1;");
        Checks.tell(x, 2, "come 1000;");
        x.days(1);
        T.due("24 one is stuck", x.right(2), 1);
    }

    private static void turns() {
        UnbornBells x = withChildren(3);
        T.due("25 a turn", x.turn(0, 0, 0), 1);
        T.due("25 it forgets what can be undone", x.look(12), 0);
        T.due("45 turns", x.look(11), 1);
        x.days(1);
        int[][] wrong = {{3, 0, 0}, {-2, 0, 0}, {0, -1, 0}, {0, 24, 0}, {0, 0, -1}, {0, 0, 4}, {Integer.MIN_VALUE, 0, 0}};
        for (int[] w : wrong) {
            T.due("25 turn " + w[0] + " " + w[1] + " " + w[2], x.turn(w[0], w[1], w[2]), NONE);
        }
        T.due("25 a refusal forgets nothing", x.look(12), 1);
        for (int i = 2; i <= 12; i++) {
            T.due("25 how many", x.turn(i % 3, 23, 3), i);
        }
        T.due("25 there are twelve", x.turn(0, 0, 0), NONE);
        T.due("25 there are twelve", x.look(11), 12);
        x.days(1);
        T.due("25 none is then", x.turn(NONE, 0, 0), 0);
        T.due("25 none is then", x.look(11), 0);
        T.due("25 it forgets what can be undone", x.look(12), 0);
        T.due("25 from one on", x.turn(2, 0, 0), 1);
        x = new UnbornBells();
        T.due("25 no children", x.turn(0, 0, 0), NONE);
        T.due("25 none is then", x.turn(NONE, 5, 1), 0);
    }

    private static void fits() {
        // Bell i sounds from 2 i on for three hours: 0 has 0 1 2, 1 has 2 3 4, 2 has 4 5 6, 3 has 6 7 8.
        UnbornBells x = withChildren(4);
        T.due("26 all", x.fits(0), 15);
        x.turn(0, 4, 0);
        T.due("26 of that tower", x.fits(0), Checks.set(2));
        T.due("26 another child", x.fits(1), 15);
        x.turn(1, 4, 1);
        T.due("26 of the other tower", x.fits(1), Checks.set(1));
        x.turn(1, 2, 1);
        T.due("26 in each of its hours", x.fits(1), Checks.set(1));
        x.turn(1, 6, 1);
        T.due("26 in none", x.fits(1), 0);
        x.turn(2, 9, 0);
        T.due("26 none sounds then", x.fits(2), 0);
        x.turn(3, 4, 2);
        T.due("26 none is of that tower", x.fits(3), 0);
        T.due("26 no such child", x.fits(4), NONE);
        T.due("26 no such child", x.fits(-1), NONE);
        x.turn(NONE, 0, 0);
        x.melt(2);
        T.due("26 not one that is melted", x.fits(0), 11);
    }

    private static void ask() {
        UnbornBells x = withChildren(4);
        T.due("27 two of four", x.ask(0), 2);
        x.melt(0);
        T.due("27 one of three, of several the least", x.ask(0), 2);
        x.melt(1);
        T.due("27 one of two", x.ask(0), 4);
        x.turn(0, 6, 0);
        T.due("27 fewer than two", x.ask(0), NONE);
        x.turn(NONE, 0, 0);
        x.melt(3);
        T.due("27 one", x.ask(0), NONE);
        T.due("27 no such child", x.ask(4), NONE);
        T.due("27 no such child", x.ask(-1), NONE);
        x = withChildren(2);
        Checks.tell(x, 0, "ring 0 at 5 for 2; ring 1 at 5 for 2;");
        T.due("27 nothing tells them apart", x.ask(0), 0);
        Checks.tell(x, 0, "ring 0 at 5 for 2; ring 1 at 6 for 2;");
        T.due("27 the first hour that does", x.ask(0), 5);
        x = withChildren(5);
        Checks.tell(x, 0, "ring 0 at 1 for 5; ring 1 at 1 for 5; ring 2 at 1 for 2; ring 3 at 1 for 1; ring 4 at 9 for 1;");
        T.due("27 the greater part is least", x.ask(0), 2);
    }

    private static void eldest() {
        UnbornBells x = withChildren(3);
        x.bell(0, 1, 1, 1);
        T.due("41 own", x.eldest(2, 0), 2);
        T.due("41 came", x.eldest(2, 1), 2);
        x.swap(0, 2);
        T.due("41 own", x.eldest(2, 0), 2);
        T.due("41 came", x.eldest(2, 1), 0);
        T.due("41 came", x.eldest(0, 1), 2);
        T.due("41 none", x.eldest(3, 0), NONE);
        T.due("41 none", x.eldest(3, 1), NONE);
        int[][] wrong = {{4, 0}, {-1, 0}, {0, 2}, {0, -1}, {-1, 1}};
        for (int[] w : wrong) {
            T.due("41 eldest " + w[0] + " " + w[1], x.eldest(w[0], w[1]), NONE);
        }
        x = new UnbornBells();
        x.bell(0, 0, 50, 10);
        x.bell(0, 12, 60, 10);
        x.set(4, 0, 1);
        x.set(0, 0, 0);
        Checks.tell(x, 0, "ring 0 at 1 for 1; ring 1 at 1 for 1;");
        Checks.tell(x, 2, "come 1000;");
        T.due("9 three", x.days(1), 3);
        T.due("41 the first of twins", x.eldest(0, 0), 0);
        T.due("41 the one that came", x.eldest(0, 1), 1);
        T.due("41 the one that came astray", x.eldest(1, 1), 0);
        T.due("41 own", x.eldest(1, 0), 2);
    }
}
