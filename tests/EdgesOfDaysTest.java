/**
 * The edges that the document's third section names (a DAY, the BOOK, what can be undone), and those of its fourth that
 * are ties or ends, a method for each sentence; its words stand above it.
 */
public final class EdgesOfDaysTest {
    private static final Checks T = new Checks("EdgesOfDaysTest");
    private static final int NONE = UnbornBells.NONE;

    public static void main(String[] args) {
        daysOneMore();
        hopeSlackLess();
        drawIfComeIsAboveZero();
        belowCome();
        askedAhead();
        firstClearHour();
        firstHourWithoutAClearOne();
        lastHour();
        allThatSoundAtThatMoment();
        twins();
        twentyChildren();
        coldAboveZero();
        frostHeld();
        dayOneMore();
        bookOfEach();
        bookFull();
        bookFullAndUndone();
        sixAreKept();
        eachGoesBack();
        stateAndBookGoBack();
        whatForgets();
        whatDoesNotForget();
        lawsAreNotUndone();
        imageKeepsAllBut();
        imageKeepsAll();
        imageKeepsFullBook();
        lesserHour();
        leastHarm();
        firstOfThePeals();
        rightAsLongAs();
        rightWithWhom();
        thoughtLeavesAll();
        T.close();
    }

    private static int next(int state) {
        return 1664525 * state + 1013904223;
    }

    /** «DAYS one more (9999 at most)» */
    private static void daysOneMore() {
        UnbornBells x = Parishes.oneBell(40, "come 0;");
        x.bell(0, 30, 50, 40);
        for (int i = 0; i < 166; i++) {
            x.days(60);
        }
        T.due("3 each day", x.of(0, 7), 9960);
        x.days(39);
        T.due("3 9999", x.of(0, 7), 9999);
        T.due("3 not one that never sounds", x.of(1, 7), 0);
        x.days(1);
        T.due("3 9999 at most", x.of(0, 7), 9999);
    }

    /** «HOPE slack less (0 at least)» */
    private static void hopeSlackLess() {
        int[][] cases = {{40, 39, 1}, {40, 40, 0}, {40, 41, 0}, {99, 99, 0}, {0, 1, 0}, {40, 0, 40}, {0, 0, 0}};
        for (int[] c : cases) {
            UnbornBells x = Parishes.oneBell(c[0], "come 0; slack " + c[1] + ";");
            x.bell(0, 30, 50, 40);
            x.days(1);
            T.due("3 hope " + c[0] + " less " + c[1], x.of(0, 3), c[2]);
            T.due("3 not of one that never sounds", x.of(1, 3), 40);
        }
    }

    /** «if COME is above 0, a DRAW of 1000» */
    private static void drawIfComeIsAboveZero() {
        String[] none = {"come 0;", "come 0-1;", "come 1 when day = 7; come 0;"};
        for (String law : none) {
            UnbornBells x = Parishes.oneBell(40, law);
            x.days(1);
            T.due("3 no draw by " + law, x.look(7), 0);
            T.due("3 though a day went by", x.of(0, 7), 1);
        }
        UnbornBells x = Parishes.oneBell(40, "come 1;");
        x.days(1);
        T.due("3 a draw", x.look(7), next(0));
        T.due("3 not below 1", x.look(1), 0);
        x = Parishes.oneBell(40, "come 1000;");
        x.days(1);
        T.due("3 a draw, though it is sure", x.look(7), next(0));
        T.due("3 sure", x.look(1), 1);
    }

    /** «below COME its CHILD comes» */
    private static void belowCome() {
        // The first draw of STATE 0 is 563.
        T.due("3 at it", Parishes.oneBell(40, "come 563;").days(1), 0);
        T.due("3 below it", Parishes.oneBell(40, "come 564;").days(1), 1);
    }

    /** «(both asked ahead of this BELL's changes)» */
    private static void askedAhead() {
        T.due("3 come by hope", Parishes.oneBell(40, "come 1000 when hope = 40; come 0; slack 1;").days(1), 1);
        T.due("3 come by days", Parishes.oneBell(40, "come 1000 when days = 0; come 0;").days(1), 1);
        T.due("3 come by day", Parishes.oneBell(40, "come 1000 when day = 0; come 0;").days(1), 1);
        UnbornBells x = Parishes.oneBell(40, "come 0; slack 5 when days = 0; slack 1;");
        x.days(1);
        T.due("3 slack by days", x.of(0, 3), 35);
        x.days(1);
        T.due("3 slack by days", x.of(0, 3), 34);
        // Of another BELL's changes they are not ahead.
        x = Parishes.ofPitches(10, 20);
        Checks.tell(x, 0, "ring 0 at 3 for 1; ring 1 at 3 for 1;");
        x.set(0, 0, 12);
        Checks.tell(x, 2, "come 1000 when clear = pitch / 20; come 0;");
        T.due("3 the first hangs, the second is clear then", x.days(1), 2);
    }

    private static UnbornBells astrayByHours(String hours) {
        // Bell 1 drowns bell 0; bells 2 and 3 are octaves of it, and louder.
        UnbornBells x = new UnbornBells();
        x.bell(0, 10, 50, 40);
        x.bell(0, 11, 50, 40);
        x.bell(0, 22, 60, 40);
        x.bell(0, 34, 60, 40);
        Checks.tell(x, 0, hours);
        Checks.tell(x, 2, "come 1000 when pitch = 10; come 0;");
        T.due("3 one comes", x.days(1), 1);
        return x;
    }

    /** «CAME is ASTRAY of its first CLEAR HOUR .. by HOURS from 0 on» */
    private static void firstClearHour() {
        UnbornBells x = astrayByHours("ring 0 at 3 for 3; ring 1 at 3 for 1; ring 2 at 4 for 1; ring 3 at 5 for 1;");
        T.due("3 not its first hour, nor its last clear one", x.child(0, 1), 2);
        x = astrayByHours("ring 0 at 3 for 3; ring 2 at 3 for 1; ring 3 at 4 for 2;");
        T.due("3 its first hour", x.child(0, 1), 2);
        x = astrayByHours("ring 0 at 22 for 4; ring 2 at 22 for 2; ring 3 at 0 for 1;");
        T.due("3 from 0 on, over midnight", x.child(0, 1), 3);
        x = astrayByHours("ring 0 at 22 for 4; ring 1 at 0 for 2; ring 3 at 0 for 1; ring 2 at 22 for 1;");
        T.due("3 the first clear one ahead of midnight", x.child(0, 1), 2);
    }

    /** «(without one its first HOUR)» */
    private static void firstHourWithoutAClearOne() {
        UnbornBells x = astrayByHours("ring 0 at 3 for 3; ring 1 at 3 for 3; ring 2 at 3 for 1; ring 3 at 4 for 2;");
        T.due("3 its first hour", x.child(0, 1), 2);
        x = astrayByHours("ring 0 at 23 for 2; ring 1 at 23 for 2; ring 2 at 23 for 1; ring 3 at 0 for 1;");
        T.due("3 from 0 on", x.child(0, 1), 3);
    }

    /** The same of a BELL that sounds at 23 alone. */
    private static void lastHour() {
        UnbornBells x = astrayByHours("ring 0 at 23 for 1; ring 3 at 22 for 2;");
        T.due("3 clear in the last hour", x.child(0, 1), 3);
        x = astrayByHours("ring 0 at 23 for 1; ring 1 at 23 for 1; ring 2 at 23 for 1; ring 3 at 22 for 1;");
        T.due("3 drowned in the last hour", x.child(0, 1), 2);
    }

    /** «with all that sound at that moment, it too» */
    private static void allThatSoundAtThatMoment() {
        UnbornBells x = Parishes.ofPitches(10, 22);
        Checks.tell(x, 0, "ring 0 at 3 for 1; ring 1 at 3 for 1;");
        Checks.tell(x, 1, "loud 60 when pitch = 10; loud 50;");
        Checks.tell(x, 2, "come 1000;");
        T.due("3 both come", x.days(1), 2);
        T.due("3 it sounds, too", x.child(0, 1), 0);
        T.due("3 the first hangs by then", x.child(1, 1), 1);
        x.undo();
        Checks.tell(x, 1, "loud 50 when pitch = 10; loud 60;");
        x.days(1);
        T.due("3 the second sounds still", x.child(0, 1), 1);
        // The first clear hour is asked at that moment, too: by then HOPE is less.
        x = Parishes.ofPitches(10, 11, 22);
        Checks.tell(x, 0, "ring 0 at 3 for 2; ring 1 at 3 for 1; ring 2 at 4 for 1;");
        Checks.tell(x, 1, "loud 200 when hope = 40 and pitch = 10; loud 90 when pitch = 22; loud 50;");
        Checks.tell(x, 2, "come 1000 when pitch = 10; come 0; slack 1;");
        T.due("3 one comes", x.days(1), 1);
        T.due("3 by its hope then", x.child(0, 1), 2);
    }

    /** «CRACKED: two CHILDREN (of the second CAME is OWN)» */
    private static void twins() {
        UnbornBells x = Parishes.ofPitches(10, 22);
        x.set(4, 0, 1);
        Checks.tell(x, 0, "ring 0 at 3 for 1; ring 1 at 3 for 1;");
        Checks.tell(x, 1, "loud pitch;");
        Checks.tell(x, 2, "come 1000 when pitch = 10; come 0;");
        T.due("3 two", x.days(1), 2);
        T.due("3 one draw", x.look(7), next(0));
        int[][] dues = {{0, 1, 0}, {0, 0, 0}};
        for (int i = 0; i < 2; i++) {
            for (int what = 0; what < 3; what++) {
                T.due("3 child(" + i + ", " + what + ")", x.child(i, what), dues[i][what]);
            }
            T.due("3 a line each", x.book(i, 3), dues[i][1]);
        }
        x = Parishes.ofPitches(10);
        x.set(4, 0, 1);
        x.set(4, 0, 0);
        Checks.tell(x, 0, "ring 0 at 3 for 1;");
        Checks.tell(x, 2, "come 1000;");
        T.due("3 cracked no more", x.days(1), 1);
    }

    /** «With 20 CHILDREN there are no more, it HANGS all the same» */
    private static void twentyChildren() {
        UnbornBells x = Parishes.withChildren(10, 9);
        T.due("3 nineteen", x.look(1), 19);
        T.due("3 nineteen lines", x.look(6), 19);
        x = Parishes.withChildren(10, 10);
        T.due("3 twenty", x.look(1), 20);
        T.due("3 twenty lines", x.look(6), 20);
        for (int i = 0; i < 10; i++) {
            T.due("3 it hangs", x.of(i, 6), 1);
        }
    }

    /** «If COLD is above 0, a DRAW of 1000: below COLD FROST is one more, else one less» */
    private static void coldAboveZero() {
        int[][] cases = {{0, 5, 0}, {1, 4, 1}, {563, 4, 1}, {564, 6, 1}, {1000, 6, 1}};
        for (int[] c : cases) {
            UnbornBells x = new UnbornBells();
            x.set(1, 0, 5);
            x.set(2, 0, c[0]);
            x.days(1);
            T.due("3 frost by cold " + c[0], x.look(4), c[1]);
            T.due("3 draws by cold " + c[0], x.look(7), c[2] == 0 ? 0 : next(0));
        }
    }

    /** «(9 at most)», «(0 at least)» */
    private static void frostHeld() {
        int[][] cases = {{8, 1000, 9}, {9, 1000, 9}, {1, 1, 0}, {0, 1, 0}};
        for (int[] c : cases) {
            UnbornBells x = new UnbornBells();
            x.set(1, 0, c[0]);
            x.set(2, 0, c[1]);
            x.days(1);
            T.due("3 frost from " + c[0], x.look(4), c[2]);
        }
    }

    /** «DAY is one more» */
    private static void dayOneMore() {
        UnbornBells x = Parishes.oneBell(40, "come 1000 when day = 2; come 0;");
        x.days(2);
        T.due("3 two", x.look(2), 2);
        T.due("3 none yet", x.look(1), 0);
        x.days(1);
        T.due("3 three", x.look(2), 3);
        T.due("3 the day that was", x.child(0, 2), 2);
        T.due("3 the day in the book", x.book(0, 0), 2);
    }

    /** «THE BOOK: DAY, what, OWN (1: the BELL; 2: the one CHILD), CAME (1: NONE; 2: the other CHILD)» */
    private static void bookOfEach() {
        UnbornBells x = Parishes.withChildren(3, 0);
        x.days(4);
        x.melt(2);
        x.swap(2, 1);
        x.muffle(0, true);
        int[][] dues = {{0, 0, 0, 0}, {0, 0, 1, 1}, {0, 0, 2, 2}, {5, 1, 2, NONE}, {5, 2, 2, 1}};
        T.due("3 no line of a muffling, nor of a day", x.look(6), dues.length);
        for (int i = 0; i < dues.length; i++) {
            for (int what = 0; what < 4; what++) {
                T.due("3 book(" + i + ", " + what + ")", x.book(i, what), dues[i][what]);
            }
        }
    }

    private static UnbornBells withLines(int lines) {
        UnbornBells x = Parishes.withChildren(2, 0);
        x.bell(0, 40, 50, 40);
        for (int i = 2; i < lines; i++) {
            x.swap(0, 1);
        }
        T.due("3 lines", x.look(6), lines);
        return x;
    }

    /** «THE BOOK (120 lines; no more then)» */
    private static void bookFull() {
        UnbornBells x = withLines(119);
        T.yes("3 a melting", x.melt(0));
        T.due("3 the 120th", x.look(6), 120);
        T.due("3 the 120th", x.book(119, 1), 1);
        T.yes("3 another melting", x.melt(1));
        T.due("3 it was done", x.of(1, 6), 2);
        T.due("3 no more", x.look(6), 120);
        T.due("3 the 120th stays", x.book(119, 2), 0);
        T.due("3 there is no 121st", x.book(120, 0), NONE - 1);
        x = withLines(120);
        T.yes("3 a swap", x.swap(0, 1));
        T.due("3 no more", x.look(6), 120);
        T.due("3 it was done", x.child(0, 1), 1);
        x = withLines(120);
        Checks.tell(x, 0, "ring 2 at 3 for 1;");
        T.due("3 a child comes all the same", x.days(1), 1);
        T.due("3 no more", x.look(6), 120);
        T.due("3 three children", x.look(1), 3);
        x = withLines(119);
        x.set(4, 2, 1);
        Checks.tell(x, 0, "ring 2 at 3 for 1;");
        T.due("3 twins", x.days(1), 2);
        T.due("3 the first one's line is the last", x.look(6), 120);
        T.due("3 the first one's line is the last", x.book(119, 2), 2);
        T.due("3 four children", x.look(1), 4);
    }

    /** «(STATE, THE BOOK, too)», of a full one */
    private static void bookFullAndUndone() {
        UnbornBells x = withLines(119);
        x.swap(0, 1);
        x.swap(0, 1);
        x.melt(2);
        T.due("3 full", x.look(6), 120);
        T.yes("4 a melting without a line", x.undo());
        T.due("3 full still", x.look(6), 120);
        T.yes("4 a swap without a line", x.undo());
        T.due("3 full still", x.look(6), 120);
        T.yes("4 the swap of the last line", x.undo());
        T.due("3 a line less", x.look(6), 119);
        T.due("3 a line less", x.book(119, 0), NONE - 1);
        x.melt(2);
        T.due("3 its place is another's", x.book(119, 1), 1);
    }

    /** «6 are kept» */
    private static void sixAreKept() {
        for (int n = 1; n <= 60; n++) {
            UnbornBells x = new UnbornBells();
            x.days(n);
            int kept = Math.min(6, n);
            T.due("4 kept of " + n, x.look(12), kept);
            for (int i = 1; i <= kept; i++) {
                T.yes("4 back", x.undo());
                T.due("4 a day each", x.look(2), n - i);
            }
            T.no("4 no more", x.undo());
        }
    }

    private static void goesBack(String what, java.util.function.Consumer<UnbornBells> call) {
        UnbornBells x = Parishes.lived();
        call.accept(x);
        T.due("4 six with " + what, x.look(12), 6);
        T.yes("4 undone, " + what, x.undo());
        T.yes("4 all as ahead of " + what, Parishes.whole(x).equals(Parishes.whole(Parishes.lived())));
    }

    /** «the latest DAY, MELTING, MUFFLING, SWAP not undone yet goes back» */
    private static void eachGoesBack() {
        goesBack("a day", x -> x.days(1));
        goesBack("a melting", x -> x.melt(3));
        goesBack("a melting of one that hangs", x -> x.melt(0));
        goesBack("a muffling", x -> x.muffle(3, true));
        goesBack("a muffling no more", x -> x.muffle(2, false));
        goesBack("a swap", x -> x.swap(0, 1));
        goesBack("a swap of the last", x -> x.swap(2, 1));
        // A day on which all come: ten bells, twenty children, and all that they change.
        UnbornBells x = comeAgain();
        for (int i = 9; i >= 0; i--) {
            T.due("4 OWN again", x.child(2 * i + 1, 0), i);
            T.yes("4 one of them is melted", x.melt(i));
            T.yes("4 undone", x.undo());
            T.due("4 it hangs", x.of(i, 6), 1);
        }
        T.yes("4 all as it was", Parishes.whole(x).equals(Parishes.whole(comeAgain())));
        x = comeAgain();
        for (int i = 0; i < 19; i++) {
            x.swap(i, i + 1);
            T.yes("4 undone", x.undo());
            T.due("4 CAME as it was", x.child(i, 1), i / 2);
            T.due("4 CAME as it was", x.child(i + 1, 1), (i + 1) / 2);
        }
        T.yes("4 all as it was", Parishes.whole(x).equals(Parishes.whole(comeAgain())));
    }

    private static UnbornBells comeAgain() {
        UnbornBells x = Parishes.withChildren(10, 10);
        T.yes("4 undone", x.undo());
        T.due("4 none has come", x.look(1), 0);
        T.due("4 all come again", x.days(1), 20);
        return x;
    }

    /** «the latest DAY, MELTING, MUFFLING, SWAP not undone yet goes back (STATE, THE BOOK, too)» */
    private static void stateAndBookGoBack() {
        UnbornBells x = Parishes.oneBell(40, "come 1000 when day = 1; come 1; slack 3;");
        x.set(2, 0, 1000);
        x.days(1);
        int state = x.look(7);
        T.due("4 a child", x.days(1), 1);
        T.yes("4 undone", x.undo());
        T.due("4 the child", x.look(1), 0);
        T.due("4 its line", x.look(6), 0);
        T.due("4 STATE", x.look(7), state);
        T.due("4 FROST", x.look(4), 1);
        T.due("4 DAY", x.look(2), 1);
        T.due("4 HOPE", x.of(0, 3), 37);
        T.due("4 DAYS", x.of(0, 7), 1);
        T.due("4 HOW", x.of(0, 6), 0);
        T.due("4 it sounds", x.of(0, 8), 1 << 7);
        T.due("4 a child again", x.days(1), 1);
        T.due("4 the first", x.eldest(0, 0), 0);
    }

    private static void forgets(String what, java.util.function.Consumer<UnbornBells> call) {
        UnbornBells x = Parishes.lived();
        call.accept(x);
        T.due("4 forgotten by " + what, x.look(12), 0);
        T.no("4 nothing to undo after " + what, x.undo());
        T.due("4 the day stays after " + what, x.look(2), what.equals("image(false)") ? 0 : 3);
    }

    /** «whatever else is told .. forgets them» */
    private static void whatForgets() {
        forgets("state", x -> x.state(x.look(7)));
        forgets("far", x -> x.far(0, 1, 11));
        forgets("bell", x -> x.bell(0, 0, 1, 0));
        forgets("NEAR", x -> x.set(0, 0, 3));
        forgets("FROST", x -> x.set(1, 0, 3));
        forgets("COLD", x -> x.set(2, 0, 500));
        forgets("HOPE", x -> x.set(3, 0, 3));
        forgets("CRACKED", x -> x.set(4, 0, 1));
        forgets("PITCH", x -> x.set(5, 0, 0));
        forgets("HOURS", x -> {
            x.end(0);
            x.text(0);
        });
        forgets("a turn", x -> x.turn(0, 0, 0));
        forgets("no turns", x -> x.turn(NONE, 0, 0));
        forgets("image(false)", x -> x.image(false));
    }

    private static void keeps(String what, java.util.function.Consumer<UnbornBells> call) {
        UnbornBells x = Parishes.lived();
        call.accept(x);
        T.due("4 kept by " + what, x.look(12), 5);
        T.yes("4 undone after " + what, x.undo());
        T.due("4 the melting is undone after " + what, x.of(4, 6), 0);
    }

    /** «but LAWS (the taking of THE IMAGE does not)», and what is refused or has a FAULT */
    private static void whatDoesNotForget() {
        keeps("a law of sound", x -> {
            x.end(0);
            x.text(1);
        });
        keeps("a law of coming", x -> {
            x.end(0);
            x.text(2);
        });
        keeps("a law that is not empty", x -> {
            x.end(0);
            Checks.tell(x, 2, "come 7;");
        });
        keeps("the taking of the image", x -> x.image(true));
        keeps("the tape", x -> x.feed(1, 2, 3, 4, 5));
        keeps("the tape's end", x -> x.end(0));
        keeps("a faulty text of hours", x -> x.text(0));
        keeps("no such text", x -> x.text(3));
        keeps("a refused far", x -> x.far(0, 0, 1));
        keeps("a refused bell", x -> x.bell(4, 0, 1, 0));
        keeps("a refused set", x -> x.set(0, 0, 13));
        keeps("a refused turn", x -> x.turn(0, 24, 0));
    }

    /** «LAWS» are not undone: they stay as they are told. */
    private static void lawsAreNotUndone() {
        UnbornBells x = Parishes.ofPitches(5);
        Checks.tell(x, 1, "loud 11;");
        x.days(1);
        Checks.tell(x, 1, "loud 22;");
        x.days(1);
        Checks.tell(x, 1, "loud 33;");
        Checks.tell(x, 2, "come 44;");
        T.yes("4", x.undo());
        T.yes("4", x.undo());
        T.due("4 the law of sound stays", x.loud(0, 0, 0), 33);
        T.due("4 the law of coming stays", x.of(0, 10), 44);
    }

    /** «all that is and was told but the TAPE, fault() and what can be undone (nothing then)» */
    private static void imageKeepsAllBut() {
        UnbornBells x = Parishes.lived();
        T.yes("4 taken", x.image(true));
        x.end(0);
        Checks.tell(x, 2, "come 1/0;");
        Checks.feed(x, "loud 8;");
        x.days(5);
        T.yes("4 gone back to", x.image(false));
        T.due("4 the day", x.look(2), 3);
        T.due("4 the fault is the latest", x.fault(0), 2);
        T.due("4 its place", x.fault(1), 7);
        T.due("4 the tape is what it was", x.text(1), 1);
        T.due("4 by it", x.loud(3, 3, 0), 8);
        T.due("4 nothing can be undone", x.look(12), 0);
        for (int i = 0; i < 3; i++) {
            x.days(1);
            x.melt(3);
            x.turn(NONE, 0, 0);
            T.yes("4 more than once", x.image(false));
            T.due("4 the day", x.look(2), 3);
            T.due("4 rung", x.of(3, 6), 0);
            T.due("4 turns", x.look(11), 2);
            T.due("4 the law as it was taken", x.loud(3, 3, 0), 33);
        }
    }

    /** «all that is and was told», each of it */
    private static void imageKeepsAll() {
        UnbornBells x = Parishes.lived();
        x.image(true);
        x.days(3);
        x.swap(1, 2);
        x.melt(0);
        x.melt(1);
        x.muffle(2, false);
        x.muffle(3, true);
        x.state(5);
        for (int a = 0; a < 4; a++) {
            for (int b = 0; b < a; b++) {
                x.far(a, b, 99 - a - b);
            }
        }
        x.bell(3, 47, 1, 1);
        for (int what = 0; what < 6; what++) {
            for (int who = 0; who < 5; who++) {
                x.set(what, who, what == 4 && who == 0 ? 0 : 1);
            }
        }
        x.turn(NONE, 0, 0);
        x.turn(2, 23, 3);
        x.end(0);
        for (int k = 0; k < 3; k++) {
            x.text(k);
        }
        Checks.tell(x, 1, "loud +");
        Checks.feed(x, "loud 7");
        T.yes("4 gone back to", x.image(false));
        UnbornBells y = Parishes.lived();
        y.image(true);
        y.image(false);
        T.yes("4 all as it was ahead of it", Parishes.seen(x).equals(Parishes.seen(Parishes.lived())));
        T.yes("4 all as it was taken", Parishes.whole(x).equals(Parishes.whole(y)));
    }

    /** Twenty children, 118 lines in the book, the image; a day and three more done after it, or nothing; gone back. */
    private static UnbornBells backToFullBook(boolean done) {
        UnbornBells x = Parishes.withChildren(10, 10);
        for (int i = 0; i < 98; i++) {
            x.swap(i % 19, 19);
        }
        x.image(true);
        if (done) {
            x.days(1);
            x.swap(0, 19);
            x.swap(3, 4);
            x.melt(9);
        }
        x.image(false);
        return x;
    }

    private static void imageKeepsFullBook() {
        for (int from = 0; from < 118; from += 59) {
            UnbornBells x = backToFullBook(true);
            UnbornBells y = backToFullBook(false);
            T.due("4 the lines", x.look(6), 118);
            for (int i = from; i < from + 59; i++) {
                for (int what = 0; what < 4; what++) {
                    T.due("4 line " + i, x.book(i, what), y.book(i, what));
                }
            }
        }
        T.yes("4 a full parish as it was taken", Parishes.seen(backToFullBook(true)).equals(Parishes.seen(backToFullBook(false))));
    }

    /** «of several ways with so many the first (BELL by BELL, the lesser HOUR)» */
    private static void lesserHour() {
        // NEAR 4, a chain of 0, 3, 6, 9: bell 1 (9) would go with bell 0 (0), but two hours are enough only otherwise.
        UnbornBells x = Parishes.ofPitches(0, 9, 3, 6);
        x.set(0, 0, 4);
        int[] dues = {0, 1, 1, 0};
        T.due("4 two", x.rows(10, 0), 2);
        for (int i = 0; i < 4; i++) {
            T.due("4 the hour of " + i, x.rows(10, 10 + i), dues[i]);
        }
        // 40 is free of all: the lesser hour.
        x = Parishes.ofPitches(0, 1, 40, 41, 20);
        int[] other = {0, 1, 0, 1, 0};
        for (int i = 0; i < 5; i++) {
            T.due("4 the hour of " + i, x.rows(2, 10 + i), other[i]);
        }
    }

    /** «the least HOPE in all; of several the fewest BELLS, of several the least set» */
    private static void leastHarm() {
        UnbornBells x = new UnbornBells();
        x.bell(0, 0, 10, 10);
        x.bell(0, 0, 10, 10);
        x.bell(0, 0, 20, 20);
        x.bell(0, 0, 20, 20);
        T.due("4 as much hope", x.melts(20, 0), 20);
        T.due("4 the fewest, of them the least set", x.melts(20, 1), 4);
        x.set(3, 1, 9);
        T.due("4 less hope, though more bells", x.melts(20, 1), 3);
        x.set(3, 1, 10);
        x.melt(2);
        T.due("4 not one that is melted", x.melts(20, 1), 8);
        x.set(3, 3, 0);
        x.set(3, 0, 0);
        T.due("4 a bell without hope is one more all the same", x.melts(20, 1), 8);
        T.due("4 as few as can be", x.melts(10, 1), 1);
    }

    /** «as long as there are a WRONG CHILD a and another WRONG one b with CAME OWN of a» */
    private static void rightAsLongAs() {
        UnbornBells x = Parishes.withChildren(10, 10);
        int[] ring = new int[20];
        for (int i = 0; i < 20; i++) {
            ring[i] = (i / 2 + 1) % 10;
        }
        Parishes.bring(x, ring);
        T.due("4 all are wrong", x.right(0), (1 << 20) - 1);
        T.due("4 two rings of ten", x.right(1), 18);
        T.due("4 all are right then", x.right(2), 20);
        // Two that came astray to a third's bell: none has what they want.
        x = Parishes.ofPitches(0, 12, 24);
        Checks.tell(x, 0, "ring 0 at 1 for 1; ring 1 at 1 for 1; ring 2 at 1 for 1;");
        Checks.tell(x, 1, "loud pitch;");
        Checks.tell(x, 2, "come 1000;");
        x.days(1);
        T.due("4 two are wrong", x.right(0), 3);
        T.due("4 no swap", x.right(1), 0);
        T.due("4 one is right", x.right(2), 1);
        // The right one with that CAME swaps with none.
        T.due("4 it came there", x.child(2, 1), 2);
    }

    /** «of a BELL its HOUR», of those that are RUNG; «the first (the lesser BELL first)» */
    private static void firstOfThePeals() {
        // 0 can follow 2 and 3 alone, 1 only 3, 2 only 0, 3 only 0 and 1: from 0 on no order ends.
        UnbornBells x = Parishes.ofPitches(0, 1, 2, 3);
        T.due("4 two orders", x.peals(15, 0), 2);
        int[] dues = {1, 3, 0, 2};
        for (int i = 0; i < 4; i++) {
            T.due("4 bell " + i + " of the first", x.peals(15, 10 + i), dues[i]);
        }
        x.melt(0);
        T.due("4 the others by hours", x.rows(10, 0), 2);
        for (int i = 0; i < 4; i++) {
            T.due("4 the hour of " + i, x.rows(10, 10 + i), new int[] {NONE, 0, 1, 0}[i]);
        }
        x.melt(1);
        T.due("4 two are left", x.rows(10, 13), 1);
    }

    /** «the least such a, for it the b whose OWN is CAME of a, if there is one, else the least b» */
    private static void rightWithWhom() {
        UnbornBells x = Parishes.withChildren(3, 1);
        // OWN 0 0 1 2. CAME 2 1 0 0: 0 goes with 3 (own 2), not with the lesser 2; then 1 with 2.
        Parishes.bring(x, 2, 1, 0, 0);
        T.due("4 two swaps", x.right(1), 2);
        x = Parishes.withChildren(4, 1);
        // OWN 0 0 1 2 3. CAME 3 1 0 0 2: of 2 and 3, neither of which is of bell 3, child 0 goes with 2; then three more.
        Parishes.bring(x, 3, 1, 0, 0, 2);
        T.due("4 from the least a, with the least b: four swaps", x.right(1), 4);
        T.due("4 all are right then", x.right(2), 5);
        // CAME 3 1 2 0 0: 0 goes with 4 (own 3), not with 3; then 1, 2, 3 in a ring.
        Parishes.bring(x, 3, 1, 2, 0, 0);
        T.due("4 three swaps", x.right(1), 3);
        // OWN 0 1 2, CAME 1 2 2: 0 finds none, 1 goes with 0.
        x = Parishes.ofPitches(0, 5, 12);
        Checks.tell(x, 0, "ring 0 at 1 for 1; ring 1 at 2 for 1; ring 2 at 1 for 1;");
        Checks.tell(x, 1, "loud pitch;");
        Checks.tell(x, 2, "come 1000;");
        x.days(1);
        x.swap(0, 1);
        T.due("4 two are wrong", x.right(0), 3);
        T.due("4 the first that finds one", x.right(1), 1);
        T.due("4 one stays wrong", x.right(2), 2);
    }

    /** «IN THOUGHT (nothing of it stays; no DRAWS)» */
    private static void thoughtLeavesAll() {
        Parishes.leavesAll(T, "4 rows", 1, x -> x.rows(10, 0));
        Parishes.leavesAll(T, "4 melts", 12, x -> x.melts(60, 1));
        Parishes.leavesAll(T, "4 siblings", 4, x -> x.siblings(5, 0));
        Parishes.leavesAll(T, "4 right", 3, x -> x.right(2));
        Parishes.leavesAll(T, "4 fits", 1, x -> x.fits(0));
        Parishes.leavesAll(T, "4 ask", 0, x -> x.ask(2));
        Parishes.leavesAll(T, "4 stop", 1, x -> x.stop(0, 38));
        Parishes.leavesAll(T, "4 late", 0, x -> x.late(0, 99));
        Parishes.leavesAll(T, "4 louder", 60, x -> x.louder(0, 0, 4, 1, 60, 0));
        Parishes.leavesAll(T, "4 ropes", 9, x -> x.ropes(0));
        Parishes.leavesAll(T, "4 free", (1 << 24) - 1 - (1 << 10), x -> x.free(3));
        Parishes.leavesAll(T, "4 placed", 0, x -> x.placed(3));
        Parishes.leavesAll(T, "4 quarrels", 0, x -> x.quarrels(0));
        Parishes.leavesAll(T, "4 likeliest", 2, x -> x.likeliest());
        Parishes.leavesAll(T, "4 none yet", 1000000, x -> x.noneYet(99));
        Parishes.leavesAll(T, "4 raised", 27, x -> x.raised(31));
        Parishes.leavesAll(T, "4 chorus", 9, x -> x.chorus(2, 1, 0));
        Parishes.leavesAll(T, "4 hopes", 19, x -> x.hopes(0));
        Parishes.leavesAll(T, "4 octaves", 0, x -> x.octaves(0));
        Parishes.leavesAll(T, "4 eldest", 0, x -> x.eldest(0, 0));
        Parishes.leavesAll(T, "4 peals", 120, x -> x.peals(31, 0));
        Parishes.leavesAll(T, "4 heard", 4, x -> x.heard(2, 9, 1));
        Parishes.leavesAll(T, "4 silence", 22, x -> x.silence(0));
    }
}
