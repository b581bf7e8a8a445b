import java.util.function.ToLongFunction;

/**
 * Each promise's own edges, a method for each promise: what is too small or too large by one, what is empty or full, and
 * what is refused. A refused call, and one in thought, must leave all as it was, with what can be undone.
 */
public final class EdgesOfPromisesTest {
    private static final Checks T = new Checks("EdgesOfPromisesTest");
    private static final int NONE = UnbornBells.NONE;
    private static final int LEAST = Integer.MIN_VALUE;
    private static final int MOST = Integer.MAX_VALUE;
    private static final int ALL_DAY = (1 << 24) - 1;

    public static void main(String[] args) {
        aNewObject();
        state();
        far();
        bell();
        set();
        melt();
        muffle();
        swap();
        days();
        feed();
        end();
        text();
        fault();
        of();
        loud();
        astray();
        child();
        book();
        heard();
        silence();
        rows();
        melts();
        siblings();
        right();
        turn();
        fits();
        ask();
        stop();
        late();
        louder();
        ropes();
        free();
        placed();
        quarrels();
        likeliest();
        noneYet();
        raised();
        chorus();
        hopes();
        octaves();
        eldest();
        peals();
        undo();
        image();
        look();
        T.close();
    }

    private static void leaves(String what, long due, ToLongFunction<UnbornBells> call) {
        Parishes.leavesAll(T, what, due, call);
    }

    private static void refuses(String what, java.util.function.Predicate<UnbornBells> call) {
        Parishes.leavesAll(T, what, 0, x -> Parishes.number(call.test(x)));
    }

    /** 1: No bells. */
    private static void aNewObject() {
        UnbornBells x = new UnbornBells();
        T.due("1 NONE", UnbornBells.NONE, -1);
        T.due("1 no bells", x.look(0), 0);
        T.due("1 of the first", x.of(0, 0), NONE - 1);
        T.due("1 no children", x.child(0, 0), NONE);
        T.due("1 an empty book", x.book(0, 0), NONE - 1);
        T.no("1 an empty tape", x.end(1));
        T.due("1 an empty text", x.text(0), 0);
        T.no("1 nothing to undo", x.undo());
        T.no("1 no image", x.image(false));
    }

    /** 2: STATE is told: what it was. */
    private static void state() {
        UnbornBells x = new UnbornBells();
        int[] told = {0, 1, -1, MOST, LEAST, 0};
        int was = 0;
        for (int v : told) {
            T.due("2 what it was", x.state(v), was);
            T.due("2 as it is", x.look(7), v);
            was = v;
        }
    }

    /** 3: FAR of two TOWERS: true; false if one can't be (alike). */
    private static void far() {
        int[] none = {-1, 4, LEAST, MOST};
        for (int t : none) {
            refuses("3 tower " + t, x -> x.far(t, 0, 5));
            refuses("3 tower " + t + " as the other", x -> x.far(0, t, 5));
            refuses("3 both towers " + t, x -> x.far(t, t, 5));
        }
        int[] beyond = {-1, 100, LEAST, MOST};
        for (int v : beyond) {
            refuses("3 far " + v, x -> x.far(0, 1, v));
        }
        for (int t = 0; t < 4; t++) {
            int tower = t;
            refuses("3 alike " + t, x -> x.far(tower, tower, 0));
            refuses("3 alike, and far " + t, x -> x.far(tower, tower, 7));
        }
        UnbornBells x = new UnbornBells();
        T.yes("3 the lowest and the highest tower", x.far(0, 3, 99));
        T.due("3 99", x.look(23), 99);
        T.yes("3 least", x.far(3, 0, 0));
        T.due("3 0", x.look(23), 0);
        T.yes("3 as it is", x.far(3, 0, 0));
    }

    /** 4: A BELL: the number; NONE if one can't be, or there are ten. */
    private static void bell() {
        int[][] wrong = {{-1, 0, 1, 0}, {4, 0, 1, 0}, {0, -1, 1, 0}, {0, 48, 1, 0}, {0, 0, 0, 0}, {0, 0, 100, 0}, {0, 0, 1, -1},
            {0, 0, 1, 100}, {LEAST, 0, 1, 0}, {MOST, 0, 1, 0}, {0, LEAST, 1, 0}, {0, MOST, 1, 0}, {0, 0, LEAST, 0},
            {0, 0, MOST, 0}, {0, 0, 1, LEAST}, {0, 0, 1, MOST}};
        for (int[] w : wrong) {
            leaves("4 bell " + java.util.Arrays.toString(w), NONE, x -> x.bell(w[0], w[1], w[2], w[3]));
        }
        UnbornBells x = new UnbornBells();
        T.due("4 the least of all", x.bell(0, 0, 1, 0), 0);
        T.due("4 the most of all", x.bell(3, 47, 99, 99), 1);
        for (int what = 0; what < 4; what++) {
            T.due("4 least", x.of(0, what), what == 2 ? 1 : 0);
        }
        T.due("4 tower 3", x.of(1, 0), 3);
        T.due("4 pitch 47", x.of(1, 1), 47);
        T.due("4 weight 99", x.of(1, 2), 99);
        T.due("4 hope 99", x.of(1, 3), 99);
        for (int i = 2; i < 9; i++) {
            x.bell(0, 0, 1, 0);
        }
        T.due("4 the tenth", x.bell(1, 2, 3, 4), 9);
        x.days(1);
        T.due("4 there are ten", x.bell(1, 2, 3, 4), NONE);
        T.due("4 ten", x.look(0), 10);
        T.due("4 nothing is forgotten", x.look(12), 1);
        x.melt(0);
        T.due("4 a melted one is one of ten", x.bell(1, 2, 3, 4), NONE);
    }

    /** 5: What 0 NEAR .. 5 PITCH: true; false if one can't be, or another what. */
    private static void set() {
        int[] most = {12, 9, 1000, 99, 1, 47};
        for (int what = 0; what < 6; what++) {
            int k = what;
            refuses("5 below 0 of " + what, x -> x.set(k, 1, -1));
            refuses("5 above the most of " + what, x -> x.set(k, 1, most[k] + 1));
            refuses("5 least int of " + what, x -> x.set(k, 1, LEAST));
            refuses("5 most int of " + what, x -> x.set(k, 1, MOST));
            UnbornBells x = Parishes.ofPitches(5, 5);
            T.yes("5 most of " + what, x.set(what, 1, most[what]));
            T.due("5 most of " + what, told(x, what), most[what]);
            T.yes("5 least of " + what, x.set(what, 1, 0));
            T.due("5 least of " + what, told(x, what), 0);
        }
        int[] others = {-1, 6, LEAST, MOST};
        for (int what : others) {
            refuses("5 another what " + what, x -> x.set(what, 0, 1));
        }
        int[] bells = {-1, 5, LEAST, MOST};
        for (int who : bells) {
            for (int what = 3; what < 6; what++) {
                int k = what;
                refuses("5 what " + what + " of bell " + who, x -> x.set(k, who, 1));
            }
            UnbornBells x = new UnbornBells();
            for (int what = 0; what < 3; what++) {
                T.yes("5 who is not asked for " + what, x.set(what, who, 1));
            }
        }
        UnbornBells x = Parishes.lived();
        T.yes("5 of one that hangs", x.set(3, 0, 9));
        T.yes("5 of one that is melted", x.set(3, 4, 9));
        T.due("5 of one that is melted", x.of(4, 3), 9);
    }

    private static int told(UnbornBells x, int what) {
        int[] of = {3, 4, 5, 3, 4, 1};
        return what < 3 ? x.look(of[what]) : x.of(1, of[what]);
    }

    /** 6: To MELT: true; false if it can't be. */
    private static void melt() {
        int[] none = {-1, 5, LEAST, MOST};
        for (int bell : none) {
            refuses("6 no bell " + bell, x -> x.melt(bell));
        }
        refuses("6 it is melted", x -> x.melt(4));
        T.yes("6 one that hangs", Parishes.lived().melt(0));
        T.yes("6 one that is rung", Parishes.lived().melt(3));
        UnbornBells x = Parishes.ofPitches(1);
        T.yes("6 the only one", x.melt(0));
        T.no("6 it is melted", x.melt(0));
        x.undo();
        T.yes("6 undone, it can be again", x.melt(0));
    }

    /** 7: To MUFFLE, or no more: true; false if it can't be (it is so). */
    private static void muffle() {
        int[] none = {-1, 5, LEAST, MOST};
        for (int bell : none) {
            refuses("7 no bell " + bell, x -> x.muffle(bell, true));
            refuses("7 no more, no bell " + bell, x -> x.muffle(bell, false));
        }
        refuses("7 it is muffled", x -> x.muffle(2, true));
        refuses("7 it is not muffled", x -> x.muffle(3, false));
        refuses("7 it is melted", x -> x.muffle(4, true));
        UnbornBells x = Parishes.lived();
        x.melt(2);
        T.no("7 it is melted, though muffled", x.muffle(2, false));
        T.due("7 it stays so", x.of(2, 5), 1);
        x = Parishes.lived();
        T.yes("7 no more", x.muffle(2, false));
        T.due("7 no more", x.of(2, 5), 0);
        T.yes("7 again", x.muffle(2, true));
        T.yes("7 one that hangs", x.muffle(0, true));
    }

    /** 8: To SWAP two CHILDREN: true; false if one can't be (alike). */
    private static void swap() {
        int[] none = {-1, 3, LEAST, MOST};
        for (int child : none) {
            refuses("8 no child " + child, x -> x.swap(child, 0));
            refuses("8 no child " + child + " as the other", x -> x.swap(0, child));
        }
        refuses("8 alike", x -> x.swap(0, 0));
        refuses("8 alike, the last", x -> x.swap(2, 2));
        UnbornBells x = Parishes.lived();
        T.yes("8 the first and the last", x.swap(0, 2));
        x = Parishes.withChildren(1, 1);
        T.yes("8 two that came to one bell", x.swap(0, 1));
        T.due("8 a line of the book", x.look(6), 3);
        T.due("8 to be undone", x.look(12), 2);
    }

    /** 9: DAYS go by (1 .. 60). NONE, and nothing is done, if one can't be, or DAY would be above 9999. */
    private static void days() {
        int[] wrong = {0, -1, 61, LEAST, MOST};
        for (int n : wrong) {
            leaves("9 days(" + n + ")", NONE, x -> x.days(n));
        }
        UnbornBells x = new UnbornBells();
        T.due("9 one", x.days(1), 0);
        T.due("9 one", x.look(2), 1);
        T.due("9 sixty", x.days(60), 0);
        T.due("9 sixty more", x.look(2), 61);
        x = new UnbornBells();
        for (int i = 0; i < 166; i++) {
            x.days(60);
        }
        x.set(2, 0, 1);
        T.due("9 from 9960 by 40", x.days(40), NONE);
        T.due("9 nothing is done", x.look(2), 9960);
        T.due("9 nothing is drawn", x.look(7), 0);
        T.due("9 nothing to undo", x.look(12), 0);
        T.due("9 by 39", x.days(39), 0);
        T.due("9 the last", x.look(2), 9999);
        T.due("9 by one more", x.days(1), NONE);
        T.due("9 by sixty more", x.days(60), NONE);
        T.yes("9 a day back", x.undo());
        T.due("9 and on again", x.days(1), 0);
        T.due("9 the last", x.look(2), 9999);
    }

    /** 10: Twenty bytes come behind the TAPE. NONE, and nothing comes, if there would be more than 400. */
    private static void feed() {
        UnbornBells x = new UnbornBells();
        for (int i = 1; i <= 19; i++) {
            x.feed(0, 0, 0, 0, 0);
        }
        T.due("10 400", x.feed(0, 0, 0, 0, 0), 400);
        T.due("10 420", x.feed(0, 0, 0, 0, 0), NONE);
        T.no("10 nothing comes", x.end(401));
        T.yes("10 to 381", x.end(381));
        T.due("10 401", x.feed(0, 0, 0, 0, 0), NONE);
        T.no("10 nothing comes", x.end(382));
        T.yes("10 to 380", x.end(380));
        T.due("10 400 again", x.feed(0, 0, 0, 0, 0), 400);
        x.text(0);
        T.due("10 the first twenty", x.feed(0, 0, 0, 0, 0), 20);
        x.end(0);
        // "loud", " 1*2", "*3*4", "*5*6", ";   ": of each number the highest byte first, the numbers in their order.
        T.due("10 in their order", x.feed(0x6c6f7564, 0x20312a32, 0x2a332a34, 0x2a352a36, 0x3b202020), 20);
        T.due("10 in their order", x.text(1), 1);
        x.bell(0, 0, 1, 0);
        T.due("10 in their order", x.loud(0, 0, 0), 720);
        x.feed(0x6c6f7564, 0x20312aff, -1, LEAST, MOST);
        T.due("10 bytes above 127", x.text(1), NONE);
        T.due("10 bytes above 127", x.fault(1), 7);
    }

    /** 11: The TAPE has its first n bytes alone: false, changing nothing, if it has not so many, or n is below 0. */
    private static void end() {
        int[] wrong = {-1, 7, 400, LEAST, MOST};
        for (int n : wrong) {
            refuses("11 end(" + n + ")", x -> x.end(n));
        }
        UnbornBells x = new UnbornBells();
        T.no("11 one of none", x.end(1));
        T.yes("11 none of none", x.end(0));
        Checks.feed(x, "loud 7;+");
        T.no("11 one more than there are", x.end(9));
        T.yes("11 as many as there are", x.end(8));
        T.yes("11 one less", x.end(7));
        T.no("11 what was cut is gone", x.end(8));
        T.due("11 the first ones stay", x.text(1), 1);
        Checks.feed(x, "loud 7");
        T.yes("11 none", x.end(0));
        T.due("11 an empty tape", x.text(1), 0);
    }

    /** 12: NONE: no such one (fault() tells 0), or a FAULT (the TEXT stays; the TAPE is empty in each case). */
    private static void text() {
        int[] none = {-1, 3, LEAST, MOST};
        for (int k : none) {
            UnbornBells x = Parishes.lived();
            T.due("12 no text " + k, x.text(k), NONE);
            T.due("12 its fault", x.fault(0), 0);
            T.due("12 its place", x.fault(1), NONE);
            T.no("12 the tape is empty", x.end(1));
            T.due("12 nothing is forgotten", x.look(12), 5);
            for (int what = 8; what <= 10; what++) {
                T.due("12 the texts stay", x.look(what), new int[] {4, 2, 3}[what - 8]);
            }
        }
        String[] faulty = {"ring 0 at 0 for 24; ring", "loud 1; loud", "come 1; slack"};
        for (int k = 0; k < 3; k++) {
            UnbornBells x = Parishes.lived();
            UnbornBells y = Parishes.lived();
            x.end(0);
            T.due("12 a fault", Checks.tell(x, k, faulty[k]), NONE);
            T.no("12 the tape is empty", x.end(1));
            // What the fault was is no matter here: both forget it.
            x.text(NONE);
            y.text(NONE);
            T.yes("12 a text with a fault stays as it was", Parishes.whole(x).equals(Parishes.whole(y)));
        }
        for (int k = 0; k < 3; k++) {
            UnbornBells x = Parishes.lived();
            x.text(NONE);
            int kept = x.look(12);
            T.due("12 an empty tape", x.text(k), 0);
            T.due("12 an empty text", x.look(8 + k), 0);
            T.due("12 no fault", x.fault(0), 0);
            T.due("12 hours forget, laws don't", x.look(12), k == 0 ? 0 : kept);
        }
    }

    /** 13: Of the latest text(): what 0 the FAULT (0 without one), 1 its place (NONE). NONE for another what. */
    private static void fault() {
        int[] others = {-1, 2, LEAST, MOST};
        for (int what : others) {
            leaves("13 another what " + what, NONE, x -> x.fault(what));
        }
        leaves("13 the fault", 1, x -> x.fault(0));
        leaves("13 its place", 5, x -> x.fault(1));
        UnbornBells x = new UnbornBells();
        T.due("13 without a text", x.fault(0), 0);
        T.due("13 without a text", x.fault(1), NONE);
        Checks.tell(x, 0, "+");
        T.due("13 its place is 0", x.fault(1), 0);
        Checks.tell(x, 1, "loud 5/0;");
        T.due("13 the latest", x.fault(0), 2);
        T.due("13 the latest", x.fault(1), 7);
        Checks.tell(x, 2, "");
        T.due("13 without one", x.fault(0), 0);
        T.due("13 without one", x.fault(1), NONE);
    }

    /** 14: NONE - 1 if there is none such, or another what. */
    private static void of() {
        int[] none = {-1, 5, LEAST, MOST};
        for (int bell : none) {
            for (int what = 0; what < 12; what++) {
                int k = what;
                leaves("14 of bell " + bell, NONE - 1, x -> x.of(bell, k));
            }
        }
        int[] others = {-1, 12, LEAST, MOST};
        for (int what : others) {
            leaves("14 another what " + what, NONE - 1, x -> x.of(0, what));
        }
        int[] hanging = {0, 0, 30, 38, 1, 0, 1, 1, 0, 0, 1000, 2};
        int[] melted = {0, 20, 34, 44, 0, 0, 2, 0, 0, 0, 0, 2};
        int[] rung = {2, 10, 32, 36, 0, 1, 0, 3, 1 << 9, 1 << 9, 0, 2};
        for (int what = 0; what < 12; what++) {
            int k = what;
            leaves("14 of one that hangs what " + what, hanging[what], x -> x.of(0, k));
            leaves("14 of one that is melted what " + what, melted[what], x -> x.of(4, k));
            leaves("14 of one that is rung what " + what, rung[what], x -> x.of(2, k));
        }
    }

    /** 15: LOUD; NONE if one can't be. */
    private static void loud() {
        int[] none = {-1, 5, LEAST, MOST};
        for (int bell : none) {
            leaves("15 bell " + bell, NONE, x -> x.loud(bell, 0, 0));
        }
        int[] towers = {-1, 4, LEAST, MOST};
        for (int tower : towers) {
            leaves("15 tower " + tower, NONE, x -> x.loud(0, tower, 0));
        }
        int[] hours = {-1, 24, LEAST, MOST};
        for (int hour : hours) {
            leaves("15 hour " + hour, NONE, x -> x.loud(0, 0, hour));
        }
        leaves("15 one that hangs, in the first hour", 30, x -> x.loud(0, 0, 0));
        leaves("15 at the last tower, in the last hour", 60, x -> x.loud(0, 3, 23));
        leaves("15 one that is melted", 34, x -> x.loud(4, 0, 11));
    }

    /** 16: ASTRAY; NONE if it does not sound then, or one can't be. */
    private static void astray() {
        int[] none = {-1, 5, LEAST, MOST};
        for (int bell : none) {
            leaves("16 bell " + bell, NONE, x -> x.astray(bell, 9));
        }
        int[] hours = {-1, 24, 33, LEAST, MOST};
        for (int hour : hours) {
            leaves("16 hour " + hour, NONE, x -> x.astray(2, hour));
        }
        leaves("16 it sounds then", 2, x -> x.astray(2, 9));
        leaves("16 an hour ahead", NONE, x -> x.astray(2, 8));
        leaves("16 an hour behind", NONE, x -> x.astray(2, 10));
        leaves("16 it hangs", NONE, x -> x.astray(0, 3));
        leaves("16 it is melted", NONE, x -> x.astray(4, 3));
        UnbornBells x = Parishes.ofPitches(1);
        Checks.tell(x, 0, "ring 0 at 23 for 2;");
        T.due("16 the last hour", x.astray(0, 23), 0);
        T.due("16 the first hour", x.astray(0, 0), 0);
        T.due("16 24 is none", x.astray(0, 24), NONE);
        T.due("16 55 is none", x.astray(0, 55), NONE);
    }

    /** 17: NONE if there is none such, or another what. */
    private static void child() {
        int[] none = {-1, 3, 19, 20, LEAST, MOST};
        for (int i : none) {
            for (int what = 0; what < 3; what++) {
                int k = what;
                leaves("17 child " + i, NONE, x -> x.child(i, k));
            }
        }
        int[] others = {-1, 3, LEAST, MOST};
        for (int what : others) {
            leaves("17 another what " + what, NONE, x -> x.child(0, what));
            leaves("17 another what of the last " + what, NONE, x -> x.child(2, what));
        }
        leaves("17 the last", 1, x -> x.child(2, 0));
        UnbornBells x = Parishes.withChildren(10, 10);
        T.due("17 the twentieth", x.child(19, 0), 9);
        T.due("17 no more", x.child(20, 0), NONE);
        x.undo();
        T.due("17 undone, there is none", x.child(0, 0), NONE);
    }

    /** 18: NONE - 1 if there is none such, or another what. */
    private static void book() {
        int[] none = {-1, 5, 119, 120, LEAST, MOST};
        for (int i : none) {
            for (int what = 0; what < 4; what++) {
                int k = what;
                leaves("18 line " + i, NONE - 1, x -> x.book(i, k));
            }
        }
        int[] others = {-1, 4, LEAST, MOST};
        for (int what : others) {
            leaves("18 another what " + what, NONE - 1, x -> x.book(0, what));
            leaves("18 another what of the last " + what, NONE - 1, x -> x.book(4, what));
        }
        leaves("18 the last line", 1, x -> x.book(4, 1));
        leaves("18 came of a melting is NONE, not NONE - 1", NONE, x -> x.book(4, 3));
        UnbornBells x = Parishes.lived();
        x.undo();
        T.due("18 undone, there is none", x.book(4, 0), NONE - 1);
    }

    /** 19: HEARD, as a set; NONE if one can't be. */
    private static void heard() {
        int[] towers = {-1, 4, LEAST, MOST};
        for (int tower : towers) {
            leaves("19 tower " + tower, NONE, x -> x.heard(tower, 9, 1));
        }
        int[] hours = {-1, 24, 33, LEAST, MOST};
        for (int hour : hours) {
            leaves("19 hour " + hour, NONE, x -> x.heard(0, hour, 1));
        }
        int[] beyond = {0, -1, 1000, LEAST, MOST};
        for (int n : beyond) {
            leaves("19 by " + n, NONE, x -> x.heard(0, 9, n));
        }
        leaves("19 by as much as it is loud", 4, x -> x.heard(2, 9, 32));
        leaves("19 by one more", 0, x -> x.heard(2, 9, 33));
        UnbornBells x = Parishes.ofPitches(1);
        Checks.tell(x, 0, "ring 0 at 23 for 2;");
        Checks.tell(x, 1, "loud 1 when hour = 0; loud 2000;");
        T.due("19 by 1", x.heard(3, 0, 1), 1);
        T.due("19 by 2", x.heard(3, 0, 2), 0);
        T.due("19 by 999", x.heard(3, 23, 999), 1);
        T.due("19 none sounds", x.heard(3, 22, 1), 0);
        Checks.tell(x, 1, "loud 0;");
        T.due("19 one that is not loud at all", x.heard(3, 0, 1), 0);
        T.due("19 no bells", new UnbornBells().heard(0, 0, 1), 0);
        x = Parishes.ofPitches(0, 0, 0, 0, 0, 0, 0, 0, 0, 0);
        Checks.tell(x, 0, "ring 9 at 0 for 1; ring 0 at 0 for 1;");
        T.due("19 the first and the tenth bell", x.heard(0, 0, 50), 513);
    }

    private static void silence(String hours, int length, int first) {
        UnbornBells x = Parishes.ofPitches(1, 20);
        Checks.tell(x, 0, hours);
        T.due("20 how long by " + hours, x.silence(0), length);
        T.due("20 the first by " + hours, x.silence(1), first);
    }

    /** 20: SILENCE what 0 how long, 1 the first HOUR (NONE if it is 0 long). NONE for another what. */
    private static void silence() {
        int[] others = {-1, 2, LEAST, MOST};
        for (int what : others) {
            leaves("20 another what " + what, NONE, x -> x.silence(what));
            T.due("20 another what " + what, new UnbornBells().silence(what), NONE);
        }
        leaves("20 from 11 to 8", 22, x -> x.silence(0));
        silence("", 24, 0);
        silence("ring 0 at 0 for 24;", 0, NONE);
        silence("ring 0 at 12 for 24;", 0, NONE);
        silence("ring 0 at 5 for 23;", 1, 4);
        silence("ring 0 at 0 for 23;", 1, 23);
        silence("ring 0 at 1 for 23;", 1, 0);
        silence("ring 0 at 0 for 1;", 23, 1);
        silence("ring 0 at 23 for 1;", 23, 0);
        silence("ring 0 at 12 for 1;", 23, 13);
        silence("ring 0 at 2 for 20;", 4, 22);
        silence("ring 0 at 2 for 3; ring 1 at 9 for 13;", 4, 5);
        silence("ring 0 at 2 for 4; ring 1 at 9 for 13;", 4, 22);
        silence("ring 0 at 4 for 4; ring 1 at 12 for 12;", 4, 0);
    }

    /** 21: ROWS. NONE if m is not enough, one can't be, or another what. */
    private static void rows() {
        int[] wrong = {0, -1, 11, LEAST, MOST};
        for (int m : wrong) {
            leaves("21 m " + m, NONE, x -> x.rows(m, 0));
            leaves("21 m " + m + " of a bell", NONE, x -> x.rows(m, 12));
        }
        int[] others = {-1, 1, 9, 15, 20, LEAST, LEAST + 9, LEAST + 10, LEAST + 12, MOST};
        for (int what : others) {
            leaves("21 another what " + what, NONE, x -> x.rows(10, what));
        }
        leaves("21 one hour", 1, x -> x.rows(1, 0));
        leaves("21 not one that hangs", NONE, x -> x.rows(10, 10));
        leaves("21 not one that is melted", NONE, x -> x.rows(10, 14));
        leaves("21 one that is rung", 0, x -> x.rows(10, 13));
        UnbornBells x = Parishes.ofPitches(7, 7, 7, 7, 7, 7, 7, 7, 7, 7);
        T.due("21 ten of like pitch", x.rows(10, 0), 10);
        T.due("21 the tenth", x.rows(10, 19), 9);
        T.due("21 nine are not enough", x.rows(9, 0), NONE);
        T.due("21 nine are not enough", x.rows(9, 10), NONE);
        x.set(0, 0, 0);
        T.due("21 none is near", x.rows(1, 0), 1);
        T.due("21 none is near", x.rows(1, 19), 0);
        T.due("21 no bells need no hour", new UnbornBells().rows(1, 0), 0);
        T.due("21 a day of none can't be, though none is needed", new UnbornBells().rows(0, 0), NONE);
        T.due("21 a day of eleven can't be", new UnbornBells().rows(11, 0), NONE);
        T.due("21 no such bell", new UnbornBells().rows(1, 10), NONE);
        x = Parishes.ofPitches(10, 13);
        x.set(0, 0, 3);
        T.due("21 just apart", x.rows(1, 0), 1);
        x.set(0, 0, 4);
        T.due("21 less than that apart", x.rows(1, 0), NONE);
        T.due("21 less than that apart", x.rows(2, 0), 2);
        x.melt(0);
        x.melt(1);
        T.due("21 all are melted", x.rows(1, 0), 0);
    }

    /** 22: MELTS. NONE if all are not enough, one can't be, or another what. */
    private static void melts() {
        int[] wrong = {0, -1, 1000, LEAST, MOST};
        for (int weight : wrong) {
            leaves("22 weight " + weight, NONE, x -> x.melts(weight, 0));
            leaves("22 weight " + weight + ", the set", NONE, x -> x.melts(weight, 1));
        }
        int[] others = {-1, 2, LEAST, MOST};
        for (int what : others) {
            leaves("22 another what " + what, NONE, x -> x.melts(1, what));
        }
        // 30, 31, 32 and 33 are left, with a hope of 38, 39, 36 and 37.
        leaves("22 by 1", 36, x -> x.melts(1, 0));
        leaves("22 all that are left", 15, x -> x.melts(126, 1));
        leaves("22 all are not enough", NONE, x -> x.melts(127, 0));
        leaves("22 all are not enough", NONE, x -> x.melts(127, 1));
        T.due("22 no bells", new UnbornBells().melts(1, 0), NONE);
        T.due("22 no bells", new UnbornBells().melts(1, 1), NONE);
        UnbornBells x = new UnbornBells();
        x.bell(0, 0, 99, 0);
        T.due("22 without hope", x.melts(99, 0), 0);
        T.due("22 as much as it is", x.melts(99, 1), 1);
        T.due("22 one more", x.melts(100, 1), NONE);
        x.bell(0, 0, 98, 0);
        T.due("22 not the first", x.melts(98, 1), 1);
        x.melt(0);
        T.due("22 the first is melted", x.melts(98, 1), 2);
        T.due("22 the first is melted", x.melts(99, 1), NONE);
        for (int i = 2; i < 10; i++) {
            x.bell(0, 0, 99, 99);
        }
        x.undo();
        T.due("22 nine, for one is melted", x.melts(890, 1), 1022);
        T.due("22 999 is more than all", x.melts(999, 0), NONE);
    }

    /** 23: SIBLINGS what 0 how many, 1 the lowest PITCH (NONE without BELLS). NONE if one can't be, or another what. */
    private static void siblings() {
        int[] wrong = {0, -1, 25, LEAST, MOST};
        for (int step : wrong) {
            leaves("23 step " + step, NONE, x -> x.siblings(step, 0));
            leaves("23 step " + step + ", the lowest", NONE, x -> x.siblings(step, 1));
        }
        int[] others = {-1, 2, LEAST, MOST};
        for (int what : others) {
            leaves("23 another what " + what, NONE, x -> x.siblings(5, what));
        }
        leaves("23 not the melted one at 20", 4, x -> x.siblings(5, 0));
        leaves("23 from 0", 0, x -> x.siblings(5, 1));
        T.due("23 without bells", new UnbornBells().siblings(1, 0), 0);
        T.due("23 without bells", new UnbornBells().siblings(1, 1), NONE);
        UnbornBells x = Parishes.ofPitches(47, 23);
        T.due("23 by 24 up to the top", x.siblings(24, 0), 2);
        T.due("23 by 24 up to the top", x.siblings(24, 1), 23);
        T.due("23 each alone, the lowest", x.siblings(23, 1), 23);
        T.due("23 alone at the top", Parishes.ofPitches(47).siblings(24, 0), 1);
        T.due("23 alone at the top", Parishes.ofPitches(47).siblings(1, 1), 47);
        x = Parishes.ofPitches(0, 1, 2, 3, 4, 5, 6, 7, 8, 9);
        T.due("23 ten by 1", x.siblings(1, 0), 10);
        T.due("23 from 0", x.siblings(1, 1), 0);
        x = Parishes.ofPitches(5, 5, 6, 6);
        T.due("23 of like pitch but one", x.siblings(1, 0), 2);
        x = Parishes.ofPitches(30, 31, 10, 11);
        T.due("23 the first such row", x.siblings(1, 1), 10);
        for (int i = 0; i < 4; i++) {
            x.melt(i);
        }
        T.due("23 all are melted", x.siblings(1, 0), 0);
        T.due("23 all are melted", x.siblings(1, 1), NONE);
    }

    /** 24: What 0 WRONG, 1 RIGHT's SWAPS, 2 how many are right then. NONE for another what. */
    private static void right() {
        int[] others = {-1, 3, LEAST, MOST};
        for (int what : others) {
            leaves("24 another what " + what, NONE, x -> x.right(what));
            T.due("24 another what " + what, new UnbornBells().right(what), NONE);
        }
        leaves("24 the first and the last", 5, x -> x.right(0));
        leaves("24 one swap", 1, x -> x.right(1));
        leaves("24 all", 3, x -> x.right(2));
        for (int what = 0; what < 3; what++) {
            T.due("24 without children", new UnbornBells().right(what), 0);
        }
        UnbornBells x = Parishes.withChildren(10, 10);
        T.due("24 twenty are right", x.right(2), 20);
        T.due("24 none is wrong", x.right(0), 0);
        T.yes("8", x.swap(0, 19));
        T.due("24 the first and the twentieth", x.right(0), 1 | 1 << 19);
        T.due("24 one swap", x.right(1), 1);
        T.due("24 twenty", x.right(2), 20);
        for (int i = 0; i < 10; i++) {
            x.swap(i, (i + 7) % 20);
        }
        T.due("24 all are right then", x.right(2), 20);
    }

    /** 25: A TURN (child NONE: none is then): how many; NONE if one can't be, or there are twelve. */
    private static void turn() {
        int[] none = {-2, 3, LEAST, MOST};
        for (int child : none) {
            leaves("25 child " + child, NONE, x -> x.turn(child, 0, 0));
        }
        int[] hours = {-1, 24, LEAST, MOST};
        for (int hour : hours) {
            leaves("25 hour " + hour, NONE, x -> x.turn(0, hour, 0));
        }
        int[] towers = {-1, 4, LEAST, MOST};
        for (int tower : towers) {
            leaves("25 tower " + tower, NONE, x -> x.turn(0, 0, tower));
        }
        UnbornBells x = Parishes.lived();
        T.due("25 the last hour and tower, of the last child", x.turn(2, 23, 3), 3);
        for (int i = 4; i <= 12; i++) {
            T.due("25 how many", x.turn(0, 0, 0), i);
        }
        x.days(1);
        T.due("25 there are twelve", x.turn(0, 0, 0), NONE);
        T.due("25 twelve", x.look(11), 12);
        T.due("25 nothing is forgotten", x.look(12), 1);
        T.due("25 none is then", x.turn(NONE, 0, 0), 0);
        T.due("25 none is then", x.look(11), 0);
        x.days(1);
        T.due("25 none was, none is", x.turn(NONE, 0, 0), 0);
        T.due("25 it is told all the same", x.look(12), 0);
        T.due("25 the first again", x.turn(0, 0, 0), 1);
        T.due("25 without children", new UnbornBells().turn(0, 0, 0), NONE);
    }

    /** 26: FITS, as a set; NONE if there is no such CHILD. */
    private static void fits() {
        int[] none = {-1, 3, 19, 20, LEAST, MOST};
        for (int child : none) {
            leaves("26 child " + child, NONE, x -> x.fits(child));
        }
        leaves("26 without a turn all but the melted one", 15, x -> x.fits(2));
        leaves("26 one that hangs", 1, x -> x.fits(0));
        leaves("26 one that is rung", 4, x -> x.fits(1));
        T.due("26 without children", new UnbornBells().fits(0), NONE);
        UnbornBells x = Parishes.lived();
        x.turn(0, 4, 0);
        T.due("26 in each of its hours", x.fits(0), 1);
        x.turn(0, 5, 0);
        T.due("26 in none", x.fits(0), 0);
        x = Parishes.lived();
        x.turn(2, 0, 1);
        T.due("26 over midnight", x.fits(2), 2);
        x.turn(2, 0, 0);
        T.due("26 of two towers none", x.fits(2), 0);
        x = Parishes.withChildren(10, 10);
        T.due("26 ten fit the last", x.fits(19), 1023);
        for (int i = 0; i < 12; i++) {
            x.turn(19, 9, 1);
        }
        T.due("26 by twelve turns", x.fits(19), 512);
    }

    /** 27: ASK; NONE if FITS are fewer than two, or there is no such CHILD. */
    private static void ask() {
        int[] none = {-1, 3, 19, 20, LEAST, MOST};
        for (int child : none) {
            leaves("27 child " + child, NONE, x -> x.ask(child));
        }
        leaves("27 one fits", NONE, x -> x.ask(0));
        leaves("27 four fit", 0, x -> x.ask(2));
        T.due("27 without children", new UnbornBells().ask(0), NONE);
        UnbornBells x = Parishes.withChildren(2, 0);
        T.due("27 two fit", x.ask(0), 0);
        x.melt(1);
        T.due("27 one fits", x.ask(0), NONE);
        x.melt(0);
        T.due("27 none fits", x.ask(0), NONE);
        x = Parishes.withChildren(2, 0);
        Checks.tell(x, 0, "ring 1 at 23 for 1;");
        T.due("27 the last hour", x.ask(0), 23);
        Checks.tell(x, 0, "ring 1 at 0 for 1;");
        T.due("27 the first hour", x.ask(0), 0);
        Checks.tell(x, 0, "");
        T.due("27 no hour tells them apart", x.ask(0), 0);
        Checks.tell(x, 0, "ring 0 at 0 for 24; ring 1 at 0 for 24;");
        T.due("27 no hour tells them apart", x.ask(0), 0);
        x = Parishes.withChildren(10, 0);
        Checks.tell(x, 0, "ring 0 at 3 for 2; ring 1 at 3 for 2; ring 2 at 3 for 2; ring 3 at 3 for 2; ring 4 at 4 for 1;");
        T.due("27 five and five", x.ask(9), 4);
        Checks.tell(x, 0, "");
        T.due("27 nothing tells ten apart", x.ask(9), 0);
        Checks.tell(x, 0, "ring 7 at 22 for 2;");
        T.due("27 one of ten", x.ask(9), 22);
    }

    /** 28: STOP; NONE if in none, or one can't be. */
    private static void stop() {
        int[] none = {-1, 5, LEAST, MOST};
        for (int bell : none) {
            leaves("28 bell " + bell, NONE, x -> x.stop(bell, 1));
        }
        int[] wrong = {-1, 100, LEAST, MOST};
        for (int price : wrong) {
            leaves("28 price " + price, NONE, x -> x.stop(0, price));
        }
        leaves("28 one that hangs", 1, x -> x.stop(0, 38));
        leaves("28 one that is melted", 0, x -> x.stop(4, 1));
        T.due("28 the price 99", Parishes.oneBell(99, "come 1000; slack 1;").stop(0, 99), 1);
        T.due("28 now", Parishes.oneBell(98, "come 1000; slack 1;").stop(0, 99), 0);
        T.due("28 the last day", Parishes.oneBell(99, "come 1000; slack 1;").stop(0, 1), 99);
        T.due("28 in none", Parishes.oneBell(1, "come 1000; slack 0;").stop(0, 1), NONE);
        T.due("28 hope is 0 at least, and not below 0", Parishes.oneBell(1, "come 1000; slack 99;").stop(0, 0), NONE);
        T.due("28 0 is below 1", Parishes.oneBell(0, "come 1000;").stop(0, 1), 0);
        T.due("28 by 1000, downwards", Parishes.oneBell(1, "come 999;").stop(0, 1), 0);
        T.due("28 by 1000, downwards", Parishes.oneBell(2, "come 500;").stop(0, 1), NONE);
        T.due("28 by 1000, downwards", Parishes.oneBell(2, "come 499;").stop(0, 1), 0);
    }

    /** 29: LATE; NONE if one can't be. */
    private static void late() {
        int[] none = {-1, 5, LEAST, MOST};
        for (int bell : none) {
            leaves("29 bell " + bell, NONE, x -> x.late(bell, 1));
        }
        int[] wrong = {-1, 100, LEAST, MOST};
        for (int n : wrong) {
            leaves("29 n " + n, NONE, x -> x.late(0, n));
        }
        leaves("29 of one that hangs, no day", 1000000, x -> x.late(0, 0));
        leaves("29 of one that hangs, a day", 0, x -> x.late(0, 1));
        leaves("29 of one that is melted", 1000000, x -> x.late(4, 99));
        T.due("29 come 1", Parishes.oneBell(9, "come 1;").late(0, 1), 999000);
        T.due("29 come 999", Parishes.oneBell(9, "come 999;").late(0, 2), 1);
        T.due("29 come 999, downwards", Parishes.oneBell(9, "come 999;").late(0, 3), 0);
        T.due("29 come 1000", Parishes.oneBell(9, "come 1000;").late(0, 99), 0);
        T.due("29 99 days", Parishes.oneBell(9, "come 1;").late(0, 99), after(99));
    }

    private static int after(int days) {
        int rest = 1000000;
        for (int i = 0; i < days; i++) {
            rest = rest * 999 / 1000;
        }
        return rest;
    }

    /** 30: LOUDER what 0 x, 1 y after n DAYS, 2 the first DAY at rest (NONE; n not asked). NONE if one can't be .. */
    private static void louder() {
        int[] most = {999, 999, 9, 999, 60, 2};
        for (int i = 0; i < 6; i++) {
            int[] edges = {-1, most[i] + 1, LEAST, MOST};
            for (int v : edges) {
                int[] a = {1, 1, 1, 1, 1, 0};
                a[i] = v;
                leaves("30 " + java.util.Arrays.toString(a), NONE, x -> x.louder(a[0], a[1], a[2], a[3], a[4], a[5]));
                if (i < 4) {
                    leaves("30 the rest of " + java.util.Arrays.toString(a), NONE, x -> x.louder(a[0], a[1], a[2], a[3], a[4], 2));
                }
            }
        }
        UnbornBells x = new UnbornBells();
        T.due("30 n 0", x.louder(999, 998, 9, 999, 0, 0), 999);
        T.due("30 n 0", x.louder(999, 998, 9, 999, 0, 1), 998);
        T.due("30 y 999", x.louder(0, 999, 4, 0, 1, 0), 999);
        T.due("30 x of more than 999", x.louder(0, 998, 4, 2, 1, 0), 999);
        T.due("30 the day is no rest", x.louder(0, 0, 0, 0, 60, 1), 0);
        T.due("30 n 60", x.louder(0, 0, 4, 1, 60, 0), 60);
        T.due("30 n 60", x.louder(0, 0, 4, 1, 60, 1), 60);
        T.due("30 998", x.louder(998, 0, 4, 0, 1, 1), 998);
        T.due("30 999", x.louder(998, 0, 4, 1, 1, 1), 999);
        T.due("30 999 at most", x.louder(998, 0, 4, 2, 1, 1), 999);
        T.due("30 a fourth, downwards", x.louder(3, 0, 1, 0, 1, 1), 0);
        T.due("30 a fourth, downwards", x.louder(7, 0, 1, 0, 1, 1), 1);
        int[] days = {-1, 0, 60, 61, LEAST, MOST};
        for (int n : days) {
            T.due("30 n is not asked", x.louder(0, 0, 0, 0, n, 2), 1);
        }
        T.due("30 both at rest at once", x.louder(5, 5, 0, 5, 0, 2), 1);
        T.due("30 only y is what it was", x.louder(9, 5, 0, 5, 0, 2), 2);
        T.due("30 only x is what it was", x.louder(5, 9, 0, 5, 0, 2), 2);
        // From 0 by 17: 986 on day 58, 999 on day 59. From 39 by 16: 983 on day 59, 999 on day 60.
        T.due("30 at rest on the 60th day", x.louder(0, 0, 4, 17, 0, 2), 60);
        T.due("30 999 on the 60th day, at rest on the 61st", x.louder(39, 39, 4, 16, 60, 0), 999);
        T.due("30 not on the 61st day", x.louder(39, 39, 4, 16, 0, 2), NONE);
        T.due("30 never", x.louder(1, 0, 4, 0, 0, 2), NONE);
    }

    /** 31: ROPES what 0 the HOUR, 1 how many. NONE if none ever sounds (0), or another what. */
    private static void ropes() {
        int[] others = {-1, 2, LEAST, MOST};
        for (int what : others) {
            leaves("31 another what " + what, NONE, x -> x.ropes(what));
            T.due("31 another what " + what, new UnbornBells().ropes(what), NONE);
        }
        leaves("31 of several the least", 9, x -> x.ropes(0));
        leaves("31 how many", 1, x -> x.ropes(1));
        T.due("31 none ever sounds", new UnbornBells().ropes(0), NONE);
        T.due("31 none ever sounds", new UnbornBells().ropes(1), 0);
        UnbornBells x = Parishes.ofPitches(0, 5, 10, 15, 20, 25, 30, 35, 40, 45);
        T.due("31 without hours", x.ropes(0), NONE);
        Checks.tell(x, 0, "ring 0 at 23 for 2; ring 1 at 0 for 1; ring 2 at 5 for 1;");
        T.due("31 the first hour", x.ropes(0), 0);
        T.due("31 the first hour", x.ropes(1), 2);
        Checks.tell(x, 0, "ring 0 at 23 for 1; ring 1 at 23 for 1; ring 2 at 0 for 1;");
        T.due("31 the last hour", x.ropes(0), 23);
        StringBuilder hours = new StringBuilder();
        for (int i = 0; i < 10; i++) {
            hours.append("ring ").append(i).append(" at 0 for 24;");
        }
        Checks.tell(x, 0, hours.toString());
        T.due("31 all ten", x.ropes(1), 10);
        T.due("31 all day", x.ropes(0), 0);
    }

    /** 32: FREE, as a set; NONE if one can't be. */
    private static void free() {
        int[] none = {-1, 5, LEAST, MOST};
        for (int bell : none) {
            leaves("32 bell " + bell, NONE, x -> x.free(bell));
        }
        leaves("32 it hangs", NONE, x -> x.free(0));
        leaves("32 it is melted", NONE, x -> x.free(4));
        leaves("32 all but its own", ALL_DAY & ~(1 << 9), x -> x.free(2));
        UnbornBells x = Parishes.ofPitches(10, 10);
        T.due("32 without hours", x.free(0), ALL_DAY);
        Checks.tell(x, 0, "ring 1 at 23 for 2;");
        T.due("32 over midnight", x.free(0), ALL_DAY & ~Checks.set(23, 0));
        T.due("32 but its own hours", x.free(1), ALL_DAY & ~Checks.set(23, 0));
        Checks.tell(x, 0, "ring 1 at 0 for 24;");
        T.due("32 all are taken", x.free(0), 0);
        T.due("32 all are its own", x.free(1), 0);
    }

    /** 33: PLACED; NONE if one can't be. */
    private static void placed() {
        int[] none = {-1, 5, LEAST, MOST};
        for (int bell : none) {
            leaves("33 bell " + bell, NONE, x -> x.placed(bell));
        }
        leaves("33 it hangs", NONE, x -> x.placed(0));
        leaves("33 it is melted", NONE, x -> x.placed(4));
        leaves("33 of several the least", 0, x -> x.placed(2));
        UnbornBells x = Parishes.ofPitches(10, 10);
        T.due("33 it never sounds", x.placed(1), 0);
        Checks.tell(x, 0, "ring 0 at 0 for 2; ring 1 at 0 for 2;");
        T.due("33 clear in no tower", x.placed(1), 0);
        x.far(0, 3, 26);
        T.due("33 the last tower", x.placed(1), 3);
        x.far(0, 3, 25);
        T.due("33 half as loud still", x.placed(1), 0);
    }

    /** 34: QUARRELS what 0 how many, 1, 2 the BELLS of the first (NONE). NONE for another what. */
    private static void quarrels() {
        int[] others = {-1, 3, LEAST, MOST};
        for (int what : others) {
            leaves("34 another what " + what, NONE, x -> x.quarrels(what));
            T.due("34 another what " + what, new UnbornBells().quarrels(what), NONE);
        }
        leaves("34 none", 0, x -> x.quarrels(0));
        leaves("34 none", NONE, x -> x.quarrels(1));
        leaves("34 none", NONE, x -> x.quarrels(2));
        T.due("34 no bells", new UnbornBells().quarrels(0), 0);
        T.due("34 no bells", new UnbornBells().quarrels(1), NONE);
        UnbornBells x = Parishes.ofPitches(10, 10, 10, 10, 10, 10, 10, 10, 10, 10);
        StringBuilder hours = new StringBuilder();
        for (int i = 0; i < 10; i++) {
            hours.append("ring ").append(i).append(" at 23 for 1;");
        }
        Checks.tell(x, 0, hours.toString());
        T.due("34 all with all", x.quarrels(0), 45);
        T.due("34 the first", x.quarrels(1), 0);
        T.due("34 the first", x.quarrels(2), 1);
        for (int i = 0; i < 8; i++) {
            x.melt(i);
        }
        T.due("34 the last two", x.quarrels(0), 1);
        T.due("34 the last two", x.quarrels(1), 8);
        T.due("34 the last two", x.quarrels(2), 9);
        Checks.tell(x, 0, "ring 8 at 23 for 1; ring 9 at 0 for 1;");
        T.due("34 never in one hour", x.quarrels(0), 0);
        x = Parishes.ofPitches(10, 12);
        Checks.tell(x, 0, "ring 0 at 0 for 24; ring 1 at 0 for 24;");
        T.due("34 as far apart as NEAR", x.quarrels(0), 0);
        x.set(5, 1, 11);
        T.due("34 less than that", x.quarrels(0), 1);
        x = new UnbornBells();
        x.bell(0, 10, 41, 0);
        x.bell(0, 10, 20, 0);
        Checks.tell(x, 0, "ring 0 at 0 for 1; ring 1 at 0 for 1;");
        T.due("34 40 is below 41", x.quarrels(0), 0);
        Checks.tell(x, 1, "loud 40 when weight = 41;");
        T.due("34 40 is not below 40", x.quarrels(0), 1);
    }

    /** 35: LIKELIEST; NONE if none sounds. */
    private static void likeliest() {
        leaves("35 all alike", 2, x -> x.likeliest());
        T.due("35 no bells", new UnbornBells().likeliest(), NONE);
        UnbornBells x = Parishes.ofPitches(0, 1);
        T.due("35 without hours", x.likeliest(), NONE);
        Checks.tell(x, 0, "ring 1 at 0 for 1;");
        Checks.tell(x, 2, "come 1000 when pitch = 0; come 0;");
        T.due("35 not one that never sounds", x.likeliest(), 1);
        Checks.tell(x, 0, "ring 1 at 0 for 1; ring 0 at 1 for 1;");
        T.due("35 the greatest", x.likeliest(), 0);
        Checks.tell(x, 2, "come 2000 - pitch * 100;");
        T.due("35 1000 at most, of several the least", x.likeliest(), 0);
        Checks.tell(x, 2, "come 999 + pitch;");
        T.due("35 by one", x.likeliest(), 1);
        x.melt(1);
        T.due("35 the one that is left", x.likeliest(), 0);
        x.melt(0);
        T.due("35 none is left", x.likeliest(), NONE);
    }

    /** 36: NONE YET; NONE if n can't be. */
    private static void noneYet() {
        int[] wrong = {-1, 100, LEAST, MOST};
        for (int n : wrong) {
            leaves("36 n " + n, NONE, x -> x.noneYet(n));
        }
        leaves("36 no day", 1000000, x -> x.noneYet(0));
        leaves("36 come 0", 1000000, x -> x.noneYet(99));
        T.due("36 no bells", new UnbornBells().noneYet(99), 1000000);
        T.due("36 99 days", Parishes.oneBell(9, "come 1;").noneYet(99), after(99));
        T.due("36 at once", Parishes.oneBell(9, "come 1000;").noneYet(1), 0);
        UnbornBells x = Parishes.ofPitches(10, 20);
        Checks.tell(x, 0, "ring 0 at 1 for 1; ring 1 at 2 for 1;");
        Checks.tell(x, 2, "come 999 when pitch = 10; come 1;");
        T.due("36 bell by bell", x.noneYet(1), 999);
        T.due("36 to nothing", x.noneYet(2), 0);
        // By 999 after 1 of 1000: 998001, then 997002 (and a part), then 996004.
        Checks.tell(x, 2, "come 1;");
        T.due("36 downwards each time", x.noneYet(2), 996004);
        Checks.tell(x, 2, "come 500;");
        T.due("36 ten days", x.noneYet(10), 0);
        T.due("36 nine days", x.noneYet(9), 3);
    }

    /** 37: RAISED; NONE if by none (not even 0), the set is empty, or none of BELLS. */
    private static void raised() {
        int[] wrong = {0, 32, 33, 1024, -1, LEAST, MOST, 1 << 30};
        for (int set : wrong) {
            leaves("37 set " + set, NONE, x -> x.raised(set));
        }
        // 0, 5, 10, 15 and 20 (melted), none less than 3 apart.
        leaves("37 all", 27, x -> x.raised(31));
        leaves("37 the melted one alone", 27, x -> x.raised(16));
        leaves("37 the first", 47, x -> x.raised(1));
        T.due("37 no bells", new UnbornBells().raised(0), NONE);
        T.due("37 no bells", new UnbornBells().raised(1), NONE);
        T.due("37 47", Parishes.ofPitches(0).raised(1), 47);
        T.due("37 0, for it is at the top", Parishes.ofPitches(47).raised(1), 0);
        UnbornBells x = Parishes.ofPitches(47, 46);
        T.due("37 not even 0", x.raised(1), NONE);
        T.due("37 not even 0", x.raised(2), NONE);
        T.due("37 both", x.raised(3), 0);
        x.set(0, 0, 1);
        T.due("37 just not near", x.raised(2), 0);
        T.due("37 just not near", x.raised(1), 0);
        x.set(5, 1, 47);
        T.due("37 of like pitch", x.raised(1), NONE);
        x.set(0, 0, 0);
        T.due("37 none is near", x.raised(1), 0);
        x = Parishes.ofPitches(0, 1, 2, 3, 4, 5, 6, 7, 8, 9);
        T.due("37 all ten", x.raised(1023), 38);
        T.due("37 the tenth", x.raised(512), 38);
        x = Parishes.ofPitches(40, 45);
        x.set(0, 0, 3);
        T.due("37 three below the other", x.raised(1), 2);
        x.set(0, 0, 2);
        T.due("37 two above the other", x.raised(1), 7);
        x.set(5, 1, 47);
        T.due("37 two below the top", x.raised(1), 5);
        x.melt(1);
        T.due("37 a melted one is not in the way", x.raised(1), 7);
    }

    /** 38: CHORUS what 0 the HOUR (NONE: none is ever HEARD), 1 how many. NONE if one can't be, or another what. */
    private static void chorus() {
        int[] towers = {-1, 4, LEAST, MOST};
        int[] beyond = {0, -1, 1000, LEAST, MOST};
        for (int what = 0; what < 2; what++) {
            int k = what;
            for (int tower : towers) {
                leaves("38 tower " + tower, NONE, x -> x.chorus(tower, 1, k));
            }
            for (int n : beyond) {
                leaves("38 by " + n, NONE, x -> x.chorus(0, n, k));
            }
        }
        int[] others = {-1, 2, LEAST, MOST};
        for (int what : others) {
            leaves("38 another what " + what, NONE, x -> x.chorus(0, 1, what));
        }
        leaves("38 the hour", 9, x -> x.chorus(2, 1, 0));
        leaves("38 how many", 1, x -> x.chorus(2, 1, 1));
        leaves("38 the other one is louder", 10, x -> x.chorus(3, 33, 0));
        leaves("38 none is heard", NONE, x -> x.chorus(3, 34, 0));
        leaves("38 none is heard", 0, x -> x.chorus(3, 34, 1));
        T.due("38 no bells", new UnbornBells().chorus(0, 1, 0), NONE);
        T.due("38 no bells", new UnbornBells().chorus(0, 1, 1), 0);
        UnbornBells x = Parishes.ofPitches(0, 10, 20);
        Checks.tell(x, 0, "ring 0 at 23 for 2; ring 1 at 0 for 1; ring 2 at 5 for 1;");
        T.due("38 the first hour", x.chorus(0, 50, 0), 0);
        T.due("38 the first hour", x.chorus(0, 50, 1), 2);
        Checks.tell(x, 0, "ring 0 at 23 for 2; ring 1 at 23 for 1;");
        T.due("38 the last hour", x.chorus(3, 1, 0), 23);
        Checks.tell(x, 1, "loud 999;");
        T.due("38 by 999", x.chorus(0, 999, 1), 2);
        Checks.tell(x, 1, "loud 998;");
        T.due("38 by 999", x.chorus(0, 999, 1), 0);
    }

    /** 39: HOPES; NONE if never, or there is no such BELL. */
    private static void hopes() {
        int[] none = {-1, 5, LEAST, MOST};
        for (int bell : none) {
            leaves("39 bell " + bell, NONE, x -> x.hopes(bell));
        }
        leaves("39 one that hangs", 19, x -> x.hopes(0));
        leaves("39 one that is melted", 22, x -> x.hopes(4));
        T.due("39 it is", Parishes.oneBell(0, "slack 1;").hopes(0), 0);
        T.due("39 it is, though slack is 0", Parishes.oneBell(0, "slack 0;").hopes(0), 0);
        T.due("39 never", Parishes.oneBell(1, "slack 0;").hopes(0), NONE);
        T.due("39 one day", Parishes.oneBell(1, "slack 99;").hopes(0), 1);
        T.due("39 one day", Parishes.oneBell(99, "slack 99;").hopes(0), 1);
        T.due("39 two days", Parishes.oneBell(99, "slack 98;").hopes(0), 2);
        T.due("39 99 days", Parishes.oneBell(99, "slack 1;").hopes(0), 99);
        T.due("39 50 days", Parishes.oneBell(99, "slack 2;").hopes(0), 50);
        T.due("39 49 days", Parishes.oneBell(98, "slack 2;").hopes(0), 49);
    }

    /** 40: OCTAVES, as a set; NONE if there is no such BELL. */
    private static void octaves() {
        int[] none = {-1, 5, LEAST, MOST};
        for (int bell : none) {
            leaves("40 bell " + bell, NONE, x -> x.octaves(bell));
        }
        leaves("40 none", 0, x -> x.octaves(0));
        UnbornBells x = Parishes.ofPitches(11, 23, 35, 47, 0, 22, 24, 10, 12, 11);
        T.due("40 0, 12, 24 and 36", x.octaves(0), Checks.set(1, 2, 3, 9));
        T.due("40 downwards", x.octaves(3), Checks.set(0, 1, 2, 9));
        T.due("40 of 0", x.octaves(4), Checks.set(6, 8));
        x.melt(9);
        T.due("40 not a melted one", x.octaves(0), Checks.set(1, 2, 3));
        T.due("40 of a melted one", x.octaves(9), Checks.set(0, 1, 2, 3));
        T.due("40 none but itself", Parishes.ofPitches(5).octaves(0), 0);
        UnbornBells y = Parishes.withChildren(4, 0);
        T.due("40 those that hang, too", y.octaves(0), Checks.set(3));
    }

    /** 41: ELDEST what 0 by OWN, 1 by CAME: the CHILD; NONE if there is none, one can't be, or another what. */
    private static void eldest() {
        int[] none = {-1, 5, LEAST, MOST};
        for (int bell : none) {
            leaves("41 bell " + bell, NONE, x -> x.eldest(bell, 0));
            leaves("41 bell " + bell + " by came", NONE, x -> x.eldest(bell, 1));
        }
        int[] others = {-1, 2, LEAST, MOST};
        for (int what : others) {
            leaves("41 another what " + what, NONE, x -> x.eldest(0, what));
        }
        leaves("41 none of its own", NONE, x -> x.eldest(2, 0));
        leaves("41 none came", NONE, x -> x.eldest(4, 1));
        leaves("41 by own", 0, x -> x.eldest(0, 0));
        leaves("41 by came", 1, x -> x.eldest(0, 1));
        leaves("41 by own, the last", 2, x -> x.eldest(1, 0));
        leaves("41 by came, the first", 0, x -> x.eldest(1, 1));
        T.due("41 no bells", new UnbornBells().eldest(0, 0), NONE);
        UnbornBells x = Parishes.withChildren(10, 9);
        T.due("41 the last bell's", x.eldest(9, 0), 18);
        T.due("41 the last bell's", x.eldest(9, 1), 18);
    }

    /** 42: PEALS. NONE if there is none (10 + i), the set is none of BELLS, has more than 8, or another what. */
    private static void peals() {
        int[] wrong = {32, 33, 1024, -1, LEAST, MOST, 1 << 30};
        for (int set : wrong) {
            leaves("42 set " + set, NONE, x -> x.peals(set, 0));
            leaves("42 set " + set + ", the first", NONE, x -> x.peals(set, 10));
        }
        int[] others = {-1, 1, 9, 13, 18, 19, LEAST, LEAST + 9, LEAST + 10, LEAST + 12, MOST};
        for (int what : others) {
            leaves("42 another what " + what, NONE, x -> x.peals(7, what));
        }
        leaves("42 three", 6, x -> x.peals(7, 0));
        leaves("42 the last of three", 2, x -> x.peals(7, 12));
        leaves("42 a melted one", 4, x -> x.peals(16, 10));
        leaves("42 of none, one order", 1, x -> x.peals(0, 0));
        leaves("42 of none, no bell", NONE, x -> x.peals(0, 10));
        UnbornBells x = Parishes.ofPitches(0, 5, 10, 15, 20, 25, 30, 35, 40, 45);
        T.due("42 eight", x.peals(255, 0), 40320);
        T.due("42 the eighth", x.peals(255, 17), 7);
        T.due("42 the last eight", x.peals(1020, 17), 9);
        T.due("42 nine", x.peals(511, 0), NONE);
        T.due("42 nine", x.peals(511, 10), NONE);
        T.due("42 ten", x.peals(1023, 0), NONE);
        T.due("42 not ten bells", x.peals(1024, 0), NONE);
        x = Parishes.ofPitches(10, 11, 12);
        T.due("42 there is none", x.peals(3, 0), 0);
        T.due("42 there is none", x.peals(3, 10), NONE);
        T.due("42 two apart", x.peals(5, 0), 2);
        T.due("42 one alone", x.peals(2, 0), 1);
        x.set(0, 0, 12);
        T.due("42 less than twelve apart", x.peals(5, 0), 0);
        x.set(5, 0, 0);
        T.due("42 twelve apart", x.peals(5, 0), 2);
    }

    /** 43: UNDO: true; false if there is nothing. */
    private static void undo() {
        T.no("43 nothing", new UnbornBells().undo());
        UnbornBells x = Parishes.lived();
        for (int i = 5; i > 0; i--) {
            T.due("43 left", x.look(12), i);
            T.yes("43 one back", x.undo());
        }
        T.no("43 nothing is left", x.undo());
        T.due("43 the day of the last telling", x.look(2), 1);
        x = Parishes.ofPitches(5);
        for (int i = 0; i < 3; i++) {
            x.muffle(0, true);
            x.muffle(0, false);
        }
        T.due("43 six", x.look(12), 6);
        x.muffle(0, true);
        T.due("43 six are kept", x.look(12), 6);
        for (int i = 0; i < 6; i++) {
            T.yes("43 back", x.undo());
        }
        T.no("43 no seventh", x.undo());
        T.due("43 the first one stays", x.of(0, 5), 1);
    }

    /** 44: THE IMAGE is taken (true), or gone back to (false): true; false if there is none. */
    private static void image() {
        UnbornBells x = new UnbornBells();
        x.days(1);
        T.no("44 there is none", x.image(false));
        T.due("44 nothing is forgotten", x.look(12), 1);
        T.yes("44 of an empty parish", x.image(true));
        T.due("44 nothing is forgotten", x.look(12), 1);
        for (int i = 0; i < 10; i++) {
            x.bell(0, i, 1, 1);
        }
        T.yes("44 gone back to", x.image(false));
        T.due("44 no bells", x.look(0), 0);
        T.due("44 a day", x.look(2), 1);
        T.due("44 nothing to undo then", x.look(12), 0);
        T.due("44 the first bell again", x.bell(1, 2, 3, 4), 0);
        T.due("44 as one that is new", x.of(0, 6), 0);
        T.yes("44 once more", x.image(false));
        T.due("44 no bells", x.look(0), 0);
        UnbornBells y = Parishes.withChildren(10, 10);
        for (int i = 0; i < 100; i++) {
            y.swap(i % 10, 19 - i % 10);
        }
        for (int i = 0; i < 12; i++) {
            y.turn(i, 1, 1);
        }
        T.yes("44 of a full parish", y.image(true));
        for (int i = 0; i < 6; i++) {
            y.melt(i);
        }
        y.turn(NONE, 0, 0);
        T.yes("44 gone back to", y.image(false));
        T.due("44 the full book", y.look(6), 120);
        T.due("44 twelve turns", y.look(11), 12);
        T.due("44 twenty children", y.look(1), 20);
        T.due("44 they hang", y.of(0, 6), 1);
    }

    /** 45: NONE for another what. */
    private static void look() {
        int[] others = {-1, 13, 14, 19, 36, 37, LEAST, MOST};
        for (int what : others) {
            leaves("45 another what " + what, NONE, x -> x.look(what));
        }
        int[] dues = {5, 3, 3, 3, 0, 500, 5, 0, 4, 2, 3, 2, 5};
        for (int what = 0; what < dues.length; what++) {
            int k = what;
            if (what != 4 && what != 7) {
                leaves("45 look(" + what + ")", dues[what], x -> x.look(k));
            }
        }
        for (int what = 20; what < 36; what++) {
            int k = what;
            int a = (what - 20) / 4;
            int b = (what - 20) % 4;
            leaves("45 far " + a + " " + b, a + b == 1 ? 11 : a != b && a + b == 5 && a > 1 && b > 1 ? 22 : 0, x -> x.look(k));
        }
    }
}
