import java.util.function.ToLongFunction;

/** Parishes that several tests begin with, and all that can be seen of one. */
final class Parishes {
    private Parishes() {
    }

    /** Bells of tower 0, all 50 heavy and with a hope of 40. */
    static UnbornBells ofPitches(int... pitches) {
        UnbornBells x = new UnbornBells();
        for (int pitch : pitches) {
            x.bell(0, pitch, 50, 40);
        }
        return x;
    }

    /** A bell of pitch 10 that sounds at 7. */
    static UnbornBells oneBell(int hope, String coming) {
        UnbornBells x = new UnbornBells();
        x.bell(0, 10, 50, hope);
        Checks.tell(x, 0, "ring 0 at 7 for 1;");
        Checks.tell(x, 2, coming);
        return x;
    }

    /** As many bells as children, in a row; twins of the first ones that are told. */
    static UnbornBells withChildren(int bells, int twins) {
        UnbornBells x = new UnbornBells();
        StringBuilder hours = new StringBuilder();
        for (int i = 0; i < bells; i++) {
            x.bell(i % 4, 4 * i, 50, 40);
            hours.append("ring ").append(i).append(" at ").append(i).append(" for 1;");
        }
        for (int i = 0; i < twins; i++) {
            x.set(4, i, 1);
        }
        x.set(0, 0, 0);
        Checks.tell(x, 0, hours.toString());
        Checks.tell(x, 2, "come 1000;");
        x.days(1);
        return x;
    }

    /** Swaps until the children came to these bells. */
    static void bring(UnbornBells x, int... came) {
        for (int i = 0; i < came.length; i++) {
            for (int j = i + 1; j < came.length && x.child(i, 1) != came[i]; j++) {
                if (x.child(j, 1) == came[i]) {
                    x.swap(i, j);
                }
            }
        }
    }

    /**
     * A parish in which all has been: bells 0 (cracked) and 1 hang, 2 and 3 are rung, 4 is melted; three children, two
     * turns, an image, five that can be undone, both laws, hours, a fault at 5 and six bytes on the tape.
     */
    static UnbornBells lived() {
        UnbornBells x = new UnbornBells();
        for (int i = 0; i < 5; i++) {
            x.bell(i % 4, 5 * i, 30 + i, 40 + i);
        }
        x.far(0, 1, 11);
        x.far(2, 3, 22);
        x.set(0, 0, 3);
        x.set(1, 0, 4);
        x.set(2, 0, 500);
        x.set(4, 0, 1);
        x.state(77);
        Checks.tell(x, 0, "ring 0 at 3 for 2; ring 1 at 22 for 4; ring 2 at 9 for 1; ring 3 at 10 for 1;");
        Checks.tell(x, 1, "loud weight - far when hour < 12; loud weight * 2 - far * 2;");
        Checks.tell(x, 2, "come 1000 when pitch < 9; come 0; slack 2;");
        x.image(true);
        x.days(1);
        x.turn(0, 3, 0);
        x.turn(1, 9, 2);
        Checks.tell(x, 1, "loud +");
        x.days(2);
        x.swap(0, 2);
        x.muffle(2, true);
        x.melt(4);
        Checks.feed(x, "loud 7");
        return x;
    }

    /** All that can be seen of a parish, then what the tape holds, what is undone, and the image: it ends with that. */
    static String whole(UnbornBells x) {
        StringBuilder s = new StringBuilder(seen(x));
        s.append(" fault ").append(x.fault(0)).append(' ').append(x.fault(1));
        s.append(" tape ");
        for (int n = 20; n >= 0 && !x.end(n); n--) {
            s.append('.');
        }
        s.append(x.text(1)).append(x.fault(1));
        while (x.look(12) > 0) {
            s.append(" undo ").append(x.undo()).append(x.look(2)).append(' ').append(x.look(6)).append(' ').append(x.look(7));
        }
        s.append(" image ").append(x.image(false));
        for (int what = 0; what <= 12; what++) {
            s.append(' ').append(x.look(what));
        }
        return s.toString();
    }

    /** All that an image keeps, of THE BOOK the last ten lines. */
    static String seen(UnbornBells x) {
        StringBuilder s = new StringBuilder();
        for (int what = 0; what < 36; what++) {
            // 12 is what can be undone.
            s.append(' ').append(what == 12 ? 0 : x.look(what));
        }
        int bells = x.look(0);
        for (int bell = 0; bell < bells; bell++) {
            for (int what = 0; what < 12; what++) {
                s.append(' ').append(x.of(bell, what));
            }
            s.append(" loud ").append(x.loud(bell, 1, 2)).append(' ').append(x.loud(bell, 2, 20));
        }
        int children = x.look(1);
        for (int i = 0; i < children; i++) {
            for (int what = 0; what < 3; what++) {
                s.append(' ').append(x.child(i, what));
            }
            s.append(" fits ").append(x.fits(i));
        }
        int lines = x.look(6);
        for (int i = Math.max(0, lines - 10); i < lines; i++) {
            for (int what = 0; what < 4; what++) {
                s.append(' ').append(x.book(i, what));
            }
        }
        return s.toString();
    }

    /** What a call answers on a parish that has lived; it may change nothing of it, nor what can be undone. */
    static void leavesAll(Checks t, String what, long due, ToLongFunction<UnbornBells> call) {
        UnbornBells x = lived();
        t.due(what, call.applyAsLong(x), due);
        t.yes(what + " leaves all as it was", whole(x).equals(whole(lived())));
    }

    static long number(boolean answer) {
        return answer ? 1 : 0;
    }
}
