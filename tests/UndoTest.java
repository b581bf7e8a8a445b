/** Promises 43 to 45: all undone, the image, looking. */
public final class UndoTest {
    private static final Checks T = new Checks("UndoTest");
    private static final int NONE = UnbornBells.NONE;

    public static void main(String[] args) {
        dayByDay();
        eachKind();
        manyBellsAndSwaps();
        sixAreKept();
        lawsStay();
        whatForgets();
        image();
        imageOfAll();
        look();
        T.close();
    }

    private static UnbornBells parish() {
        UnbornBells x = new UnbornBells();
        x.bell(0, 0, 50, 40);
        x.bell(0, 12, 60, 30);
        x.set(4, 1, 1);
        x.set(1, 0, 4);
        x.set(2, 0, 1000);
        Checks.tell(x, 0, "ring 0 at 1 for 2; ring 1 at 1 for 1;");
        Checks.tell(x, 2, "come 1000 when day = 2 and pitch = 0; come 0; slack 5;");
        x.state(99);
        return x;
    }

    private static String all(UnbornBells x) {
        StringBuilder s = new StringBuilder();
        for (int what = 0; what < 12; what++) {
            s.append(x.look(what)).append(' ');
        }
        int bells = x.look(0);
        for (int b = 0; b < bells; b++) {
            for (int what = 0; what < 12; what++) {
                s.append(x.of(b, what)).append(' ');
            }
        }
        int children = x.look(1);
        for (int i = 0; i < children; i++) {
            s.append("child ").append(x.child(i, 0)).append(' ').append(x.child(i, 1)).append(' ').append(x.child(i, 2)).append(' ');
        }
        int lines = x.look(6);
        for (int i = 0; i < lines; i++) {
            for (int what = 0; what < 4; what++) {
                s.append(x.book(i, what)).append(' ');
            }
        }
        return s.toString();
    }

    private static void same(String what, String a, String b) {
        T.due(what + ": " + a + " / " + b, a.equals(b) ? 1 : 0, 1);
    }

    private static void dayByDay() {
        UnbornBells x = parish();
        String start = all(x);
        x.days(1);
        String one = all(x);
        x.days(1);
        String two = all(x);
        T.due("9 a child comes", x.days(1), 1);
        String three = all(x);
        T.due("45 three", x.look(12), 3);
        T.yes("43 undo", x.undo());
        same("43 before the child", all(x), two);
        T.due("45 two", x.look(12), 2);
        T.yes("43 undo", x.undo());
        same("43 the first day", all(x), one);
        T.yes("43 undo", x.undo());
        same("43 the start", all(x), start);
        T.no("43 nothing is left", x.undo());
        same("43 the start", all(x), start);
        T.due("9 three at once", x.days(3), 1);
        same("9 as one by one", all(x), three);
        T.due("45 three", x.look(12), 3);
        T.yes("43 a day each", x.undo());
        same("43 before the child", all(x), two);
        x.days(1);
        same("43 and on again", all(x), three);
        T.due("45 three", x.look(12), 3);
    }

    /** Two that hang and three children; then a swap, a muffling, a melting, as many of them as are told. */
    private static UnbornBells afterDone(int done) {
        UnbornBells x = parish();
        x.days(3);
        Checks.tell(x, 2, "come 1000;");
        x.days(1);
        T.due("9 three children", x.look(1), 3);
        if (done >= 1) {
            T.yes("8", x.swap(0, 2));
        }
        if (done >= 2) {
            T.yes("7", x.muffle(1, true));
        }
        if (done >= 3) {
            T.yes("6", x.melt(1));
        }
        return x;
    }

    private static void eachKind() {
        UnbornBells x = afterDone(3);
        T.due("45", x.look(12), 6);
        T.no("7 nothing is done", x.muffle(1, true));
        T.no("6 nothing is done", x.melt(1));
        T.no("8 nothing is done", x.swap(1, 1));
        T.due("9 nothing is done", x.days(0), NONE);
        T.due("45 still", x.look(12), 6);
        same("43 still", all(x), all(afterDone(3)));
        T.yes("43", x.undo());
        same("43 a melting", all(x), all(afterDone(2)));
        T.yes("43", x.undo());
        same("43 a muffling", all(x), all(afterDone(1)));
        T.yes("43", x.undo());
        same("43 a swap", all(x), all(afterDone(0)));
        T.yes("7", x.muffle(0, true));
        T.yes("7", x.muffle(0, false));
        T.yes("43", x.undo());
        T.due("43 muffled again", x.of(0, 5), 1);
        T.yes("6 one that hangs", x.melt(0));
        T.yes("43", x.undo());
        T.due("43 it hangs again", x.of(0, 6), 1);
    }

    private static UnbornBells tenBells(String coming) {
        UnbornBells x = new UnbornBells();
        StringBuilder hours = new StringBuilder();
        for (int i = 0; i < 10; i++) {
            x.bell(0, 4 * i, 50 + i, 90 - i);
            x.set(4, i, 1);
            hours.append("ring ").append(i).append(" at ").append(i).append(" for 1;");
        }
        x.set(0, 0, 0);
        Checks.tell(x, 0, hours.toString());
        Checks.tell(x, 2, coming);
        return x;
    }

    /** Twenty children; bell 9 muffled; 8 and 9 melted; so many swaps. */
    private static UnbornBells meltedAndSwapped(int swaps) {
        UnbornBells x = tenBells("come 1000; slack 3;");
        T.due("9 twenty", x.days(1), 20);
        x.muffle(9, true);
        x.melt(8);
        x.melt(9);
        if (swaps >= 1) {
            x.swap(0, 19);
        }
        if (swaps >= 2) {
            x.swap(19, 1);
        }
        return x;
    }

    private static void manyBellsAndSwaps() {
        String ofSome = "come 1000 when pitch > 3 and pitch < 36; come 0; slack 3;";
        UnbornBells x = tenBells(ofSome);
        T.due("9 sixteen", x.days(1), 16);
        T.yes("43", x.undo());
        same("43 a day of all", all(x), all(tenBells(ofSome)));
        x = meltedAndSwapped(2);
        T.due("8 swapped", x.child(0, 1), 9);
        T.yes("43", x.undo());
        same("43 a swap", all(x), all(meltedAndSwapped(1)));
        x = meltedAndSwapped(2);
        T.yes("43", x.undo());
        T.yes("43", x.undo());
        same("43 another", all(x), all(meltedAndSwapped(0)));
        T.due("43 back", x.child(0, 1), 0);
        T.due("43 back", x.child(19, 1), 9);
        T.yes("43", x.undo());
        T.due("43 it hangs", x.of(9, 6), 1);
        T.due("43 it is melted", x.of(8, 6), 2);
        T.yes("43", x.undo());
        T.yes("43", x.undo());
        T.due("43 not muffled", x.of(9, 5), 0);
        T.yes("43", x.undo());
        same("43 the start", all(x), all(tenBells("come 1000; slack 3;")));
    }

    private static void sixAreKept() {
        UnbornBells x = new UnbornBells();
        x.bell(0, 0, 1, 1);
        x.days(9);
        T.due("45 six", x.look(12), 6);
        for (int i = 0; i < 6; i++) {
            T.yes("43", x.undo());
            T.due("43 the day", x.look(2), 8 - i);
            T.due("45", x.look(12), 5 - i);
        }
        T.no("43 no more", x.undo());
        T.due("43 the day", x.look(2), 3);
        x.muffle(0, true);
        x.days(5);
        T.yes("43", x.undo());
        x.days(2);
        T.due("45 six", x.look(12), 6);
        for (int i = 0; i < 6; i++) {
            T.due("43 muffled", x.of(0, 5), 1);
            T.yes("43", x.undo());
        }
        T.due("43 the muffling is beyond", x.of(0, 5), 1);
        T.due("43 but one day", x.look(2), 3);
        T.no("43 no more", x.undo());
    }

    private static void lawsStay() {
        UnbornBells x = parish();
        x.days(2);
        Checks.tell(x, 1, "loud 77;");
        Checks.tell(x, 2, "come 5;slack 6;");
        T.due("45 laws forget nothing", x.look(12), 2);
        T.yes("44 taking forgets nothing", x.image(true));
        T.due("44 taking forgets nothing", x.look(12), 2);
        T.yes("43", x.undo());
        T.due("43 the law stays", x.loud(0, 0, 0), 77);
        T.due("43 the law stays", x.of(0, 10), 5);
        T.due("43 the day", x.look(2), 1);
        Checks.feed(x, "loud");
        T.due("43 the tape forgets nothing", x.look(12), 1);
        T.yes("43", x.undo());
        T.yes("43 the tape stays", x.end(4));
    }

    private static void whatForgets() {
        for (int kind = 0; kind < 7; kind++) {
            UnbornBells x = parish();
            x.days(3);
            T.due("45 three", x.look(12), 3);
            String what = "43 forgotten by kind " + kind;
            switch (kind) {
                case 0 -> x.state(5);
                case 1 -> x.far(0, 1, 0);
                case 2 -> x.bell(0, 0, 1, 1);
                case 3 -> x.set(0, 0, 2);
                case 4 -> Checks.tell(x, 0, "");
                case 5 -> x.turn(0, 5, 0);
                default -> {
                    x.image(true);
                    x.image(false);
                }
            }
            T.due(what, x.look(12), 0);
            T.no(what, x.undo());
            T.due(what, x.look(2), 3);
        }
    }

    private static void image() {
        UnbornBells x = parish();
        T.no("44 none is taken", x.image(false));
        x.days(1);
        T.no("44 none is taken", x.image(false));
        T.due("44 a refusal forgets nothing", x.look(12), 1);
        T.yes("44 taken", x.image(true));
        String taken = all(x);
        x.days(3);
        Checks.feed(x, "loud +");
        x.text(1);
        Checks.feed(x, "loud 4;");
        T.yes("44 gone back to", x.image(false));
        same("44 as it was", all(x), taken);
        T.due("45 nothing can be undone", x.look(12), 0);
        T.due("13 the fault stays", x.fault(0), 1);
        T.due("13 its place stays", x.fault(1), 5);
        T.due("12 the tape stays", x.text(1), 1);
        x.swap(0, 1);
        x.days(60);
        T.yes("44 more than once", x.image(false));
        same("44 as it was", all(x), taken);
        x.days(2);
        T.yes("44 taken anew", x.image(true));
        String anew = all(x);
        x.days(5);
        T.yes("44 gone back to", x.image(false));
        same("44 the later one", all(x), anew);
    }

    private static void imageOfAll() {
        UnbornBells x = parish();
        x.far(1, 2, 33);
        x.set(0, 0, 4);
        x.set(1, 0, 5);
        Checks.tell(x, 1, "loud weight - far;loud 3;");
        x.days(3);
        x.turn(0, 1, 0);
        x.turn(0, 3, 0);
        x.muffle(1, true);
        String start = all(x);
        int fits = x.fits(0);
        x.image(true);
        x.far(1, 2, 1);
        x.far(0, 3, 9);
        x.set(0, 0, 0);
        x.set(1, 0, 0);
        x.set(2, 0, 0);
        x.set(3, 0, 1);
        x.set(4, 0, 1);
        x.set(5, 0, 47);
        x.muffle(1, false);
        x.bell(3, 1, 2, 3);
        x.melt(1);
        x.state(-5);
        x.turn(NONE, 0, 0);
        Checks.tell(x, 0, "ring 2 at 3 for 1;");
        Checks.tell(x, 1, "");
        Checks.tell(x, 2, "come 1000;");
        x.days(2);
        x.swap(0, 1);
        T.yes("44", x.image(false));
        same("44 all", all(x), start);
        T.due("44 far", x.look(20 + 6), 33);
        T.due("44 far", x.look(20 + 9), 33);
        T.due("44 far", x.look(20 + 3), 0);
        T.due("44 turns", x.fits(0), fits);
        T.due("44 the law", x.loud(0, 1, 0), 50);
        T.due("44 no bell more", x.bell(0, 0, 1, 1), 2);
        T.yes("44", x.image(false));
        same("44 all", all(x), start);
    }

    private static void look() {
        UnbornBells x = parish();
        x.far(0, 1, 11);
        x.far(2, 3, 22);
        x.set(0, 0, 7);
        x.set(1, 0, 3);
        Checks.tell(x, 1, "loud 1;loud 2;loud 3;");
        x.days(3);
        x.turn(0, 0, 0);
        x.melt(1);
        x.muffle(0, true);
        int[] dues = {2, 1, 3, 7, 6, 1000, 2, x.look(7), 2, 3, 3, 1, 2};
        for (int what = 0; what < dues.length; what++) {
            T.due("45 look(" + what + ")", x.look(what), dues[what]);
        }
        for (int a = 0; a < 4; a++) {
            for (int b = 0; b < 4; b++) {
                int want = a + b == 1 && a != b ? 11 : a + b == 5 && a > 1 && b > 1 ? 22 : 0;
                T.due("45 far of " + a + " " + b, x.look(20 + 4 * a + b), want);
            }
        }
        int[] wrong = {-1, 13, 19, 36, Integer.MIN_VALUE, Integer.MAX_VALUE};
        for (int what : wrong) {
            T.due("45 look(" + what + ")", x.look(what), NONE);
        }
    }
}
