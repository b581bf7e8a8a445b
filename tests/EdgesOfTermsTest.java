/**
 * The edges that the document's Terms name, a method for each sentence (its words stand above it): bounds, what is so at
 * first, what wraps or goes over midnight, what is empty or full, and where a fault is.
 */
public final class EdgesOfTermsTest {
    private static final Checks T = new Checks("EdgesOfTermsTest");
    private static final int NONE = UnbornBells.NONE;

    public static void main(String[] args) {
        draws();
        drawsWithoutSign();
        atFirst();
        bellsAsTheyCome();
        fullOfChildren();
        hoursOfTexts();
        overMidnight();
        twentyLines();
        sixteenLines();
        keywordsOfThatText();
        lettersTogether();
        digitsTogether();
        blanks();
        intsThatWrap();
        partsTowardsZero();
        firstFaultByItsPlace();
        atOnePlaceTheLeast();
        faultAtTheEnd();
        partsByZero();
        beyondBounds();
        bellsThatThereAreNot();
        nineOpen();
        fullTape();
        comparisons();
        andOrNot();
        firstLineThatIsSo();
        loudHeld();
        loudWithoutALine();
        quantitiesOfSound();
        quantitiesOfComing();
        soundsIfRung();
        nearerThanNear();
        halfAsLoud();
        comeHeld();
        slackHeld();
        comeAndSlackWithoutALine();
        octavesAstray();
        astrayOfSeveral();
        T.close();
    }

    private static int next(int state) {
        return (int) (1664525L * state + 1013904223L);
    }

    /** «a DRAW of m: it becomes 1664525 times itself + 1013904223 (ints, which wrap)» */
    private static void draws() {
        int[] states = {0, 1, -1, 2, 1000, -1013904223, Integer.MAX_VALUE, Integer.MIN_VALUE};
        for (int state : states) {
            UnbornBells x = new UnbornBells();
            x.set(2, 0, 1000);
            x.state(state);
            x.days(1);
            T.due("T from " + state, x.look(7), next(state));
            x.days(2);
            T.due("T thrice from " + state, x.look(7), next(next(next(state))));
        }
    }

    /** «then it is its highest 24 bits (without sign) modulo m» */
    private static void drawsWithoutSign() {
        // From 1000 it becomes 2678429223, which is below 0 as an int: by 256 that is 10462614.
        T.yes("T below 0", next(1000) < 0);
        int[][] cases = {{1000, 614, 4}, {1000, 615, 6}, {0, 563, 4}, {0, 564, 6}};
        for (int[] c : cases) {
            UnbornBells x = new UnbornBells();
            x.set(1, 0, 5);
            x.set(2, 0, c[1]);
            x.state(c[0]);
            x.days(1);
            T.due("T frost by cold " + c[1] + " from " + c[0], x.look(4), c[2]);
        }
    }

    /** «0 at first», «2 at first», «RUNG (at first)», «TEXTS (empty at first)» */
    private static void atFirst() {
        UnbornBells x = new UnbornBells();
        T.due("1 NEAR", x.look(3), 2);
        for (int what = 4; what < 8; what++) {
            T.due("1 FROST, COLD, THE BOOK, STATE", x.look(what), 0);
        }
        T.due("1 DAY", x.look(2), 0);
        for (int what = 8; what < 13; what++) {
            T.due("2 the texts, TURNS, what can be undone", x.look(what), 0);
        }
        for (int what = 20; what < 36; what++) {
            T.due("1 FAR", x.look(what), 0);
        }
        x.bell(1, 2, 3, 4);
        int[] first = {1, 2, 3, 4, 0, 0, 0, 0, 0, 0, 0, 0};
        for (int what = 0; what < 12; what++) {
            T.due("1 of a BELL what " + what, x.of(0, what), first[what]);
        }
    }

    /** «BELLS 0 .. 9 as they come» */
    private static void bellsAsTheyCome() {
        UnbornBells x = new UnbornBells();
        for (int i = 0; i < 10; i++) {
            T.due("1 its number", x.bell(i % 4, 47 - i, 99 - i, i), i);
            T.due("1 how many", x.look(0), i + 1);
        }
        for (int i = 0; i < 10; i++) {
            T.due("1 tower of " + i, x.of(i, 0), i % 4);
            T.due("1 pitch of " + i, x.of(i, 1), 47 - i);
            T.due("1 weight of " + i, x.of(i, 2), 99 - i);
            T.due("1 hope of " + i, x.of(i, 3), i);
        }
    }

    /** «CHILDREN, 20 at most, in the order in which they came» */
    private static void fullOfChildren() {
        UnbornBells x = Parishes.withChildren(10, 10);
        T.due("1 twenty", x.look(1), 20);
        for (int i = 0; i < 20; i++) {
            T.due("1 OWN of " + i, x.child(i, 0), i / 2);
        }
        for (int i = 0; i < 10; i++) {
            T.due("3 it hangs", x.of(i, 6), 1);
        }
        T.due("1 none comes any more", x.days(60), 0);
        T.due("1 twenty", x.look(1), 20);
    }

    private static void fault(UnbornBells x, int k, String text, int what, int place) {
        T.due("2 «" + text + "»", Checks.tell(x, k, text), NONE);
        T.due("2 fault of «" + text + "»", x.fault(0), what);
        T.due("2 place in «" + text + "»", x.fault(1), place);
    }

    private static void well(UnbornBells x, int k, String text, int lines) {
        T.due("2 «" + text + "»", Checks.tell(x, k, text), lines);
        T.due("2 fault of «" + text + "»", x.fault(0), 0);
        T.due("2 place in «" + text + "»", x.fault(1), NONE);
    }

    /** «HOUR 0 .. 23, N 1 .. 24» */
    private static void hoursOfTexts() {
        UnbornBells x = Parishes.ofPitches(5);
        well(x, 0, "ring 0 at 0 for 1;", 1);
        T.due("2 the first hour", x.of(0, 8), 1);
        well(x, 0, "ring 0 at 23 for 1;", 1);
        T.due("2 the last hour", x.of(0, 8), 1 << 23);
        well(x, 0, "ring 0 at 0 for 24;", 1);
        T.due("2 all hours", x.of(0, 8), (1 << 24) - 1);
        fault(x, 0, "ring 0 at 24 for 1;", 2, 10);
        fault(x, 0, "ring 0 at 0 for 0;", 2, 16);
        fault(x, 0, "ring 0 at 0 for 25;", 2, 16);
    }

    /** «over midnight, too» */
    private static void overMidnight() {
        UnbornBells x = Parishes.ofPitches(5);
        well(x, 0, "ring 0 at 23 for 2;", 1);
        T.due("2 the last and the first", x.of(0, 8), Checks.set(23, 0));
        well(x, 0, "ring 0 at 22 for 2;", 1);
        T.due("2 up to midnight", x.of(0, 8), Checks.set(22, 23));
        well(x, 0, "ring 0 at 23 for 24;", 1);
        T.due("2 all day", x.of(0, 8), (1 << 24) - 1);
        well(x, 0, "ring 0 at 12 for 23;", 1);
        T.due("2 all but 11", x.of(0, 8), (1 << 24) - 1 - (1 << 11));
    }

    /** «20 lines at most»; «3 (at its KEYWORD) .. the 21st of HOURS» */
    private static void twentyLines() {
        UnbornBells x = Parishes.ofPitches(5);
        String twenty = "ring 0 at 7 for 1;".repeat(20);
        well(x, 0, twenty, 20);
        T.due("2 twenty", x.look(8), 20);
        fault(x, 0, twenty + "ring 0 at 7 for 1;", 3, 360);
        fault(x, 0, twenty + "  \nring", 3, 363);
        fault(x, 0, twenty + "5", 1, 360);
        T.due("2 the twenty stay", x.look(8), 20);
        // A fault in the twentieth comes ahead of the 21st.
        fault(x, 0, "ring 0 at 7 for 1;".repeat(19) + "ring 0 at 7 for 0;ring", 2, 358);
    }

    /** «3 (at its KEYWORD) the 17th line of a LAW» */
    private static void sixteenLines() {
        UnbornBells x = Parishes.ofPitches(5);
        well(x, 1, "loud 1;".repeat(16), 16);
        fault(x, 1, "loud 1;".repeat(16) + " loud", 3, 113);
        T.due("2 the sixteen stay", x.look(9), 16);
        well(x, 2, "come 1;slack 1;".repeat(8), 16);
        fault(x, 2, "come 1;slack 1;".repeat(8) + "slack 1;", 3, 120);
        fault(x, 2, "come 1;slack 1;".repeat(8) + "come 1;", 3, 120);
        T.due("2 the sixteen stay", x.look(10), 16);
        well(x, 1, "loud 1;".repeat(15) + "loud 1 when 1=1;", 16);
        fault(x, 1, "loud 1;".repeat(15) + "loud 1 when 1=;loud 1;", 1, 119);
    }

    /** «KEYWORDS (those told here for that text) or none» */
    private static void keywordsOfThatText() {
        UnbornBells x = Parishes.ofPitches(5);
        String[] ofSound = {"far", "hour", "muffled"};
        String[] ofComing = {"clear", "days", "day"};
        String[] ofBoth = {"weight", "pitch", "hope", "cracked", "frost"};
        for (String word : ofBoth) {
            well(x, 1, "loud " + word + ";", 1);
            well(x, 2, "come " + word + "; slack " + word + ";", 2);
        }
        for (String word : ofSound) {
            well(x, 1, "loud " + word + ";", 1);
            fault(x, 2, "come " + word + ";", 1, 5);
            fault(x, 2, "come 1 when 1 < " + word + ";", 1, 16);
        }
        for (String word : ofComing) {
            fault(x, 1, "loud " + word + ";", 1, 5);
            fault(x, 1, "loud 1 when 1 < " + word + ";", 1, 16);
            well(x, 2, "slack " + word + ";", 1);
        }
        fault(x, 0, "loud 1;", 1, 0);
        fault(x, 0, "come 1;", 1, 0);
        fault(x, 1, "slack 1;", 1, 0);
        fault(x, 1, "ring 0 at 0 for 1;", 1, 0);
        fault(x, 2, "loud 1;", 1, 0);
        fault(x, 2, "ring 0 at 0 for 1;", 1, 0);
    }

    /** «letters as many as stand together are KEYWORDS .. or none» */
    private static void lettersTogether() {
        UnbornBells x = Parishes.ofPitches(5);
        well(x, 0, "ring0at0for1;ring0at1for1;", 2);
        fault(x, 0, "ring 0 atfor 1;", 1, 7);
        fault(x, 0, "ring 0 a t 0 for 1;", 1, 7);
        fault(x, 1, "loudweight;", 1, 0);
        fault(x, 1, "loud weightpitch;", 1, 5);
        fault(x, 1, "loud weigh;", 1, 5);
        fault(x, 1, "loud weights;", 1, 5);
        fault(x, 2, "come da;", 1, 5);
        fault(x, 2, "come dayss;", 1, 5);
        well(x, 2, "come day;come days;", 2);
        for (char letter = 'a'; letter <= 'z'; letter++) {
            fault(x, 1, "loud" + letter + " 1;", 1, 0);
            // Whether a capital belongs to the letters ahead of it, the document leaves open.
            fault(x, 1, "loud 1 + " + (char) (letter - 'a' + 'A') + ";", 1, 9);
        }
        for (char sign : "@[`{".toCharArray()) {
            fault(x, 1, "loud" + sign + " 1;", 1, 4);
        }
        fault(x, 1, "lOud 1;", 1, 0);
        fault(x, 1, "loud 1 WHEN 1=1;", 1, 7);
        well(x, 1, "loud weight-far when1<2and2<3;", 1);
    }

    /** «digits as many as stand together NUMBERS of 1 to 4 digits or none» */
    private static void digitsTogether() {
        UnbornBells x = Parishes.ofPitches(5);
        well(x, 1, "loud 9;", 1);
        T.due("2 one digit", x.loud(0, 0, 0), 9);
        well(x, 1, "loud 9999/11;", 1);
        T.due("2 four digits", x.loud(0, 0, 0), 909);
        well(x, 1, "loud 0009;", 1);
        T.due("2 four digits", x.loud(0, 0, 0), 9);
        fault(x, 1, "loud 00009;", 1, 5);
        fault(x, 1, "loud 10000;", 1, 5);
        fault(x, 1, "loud 1 + 1234567890123456789;", 1, 9);
        fault(x, 1, "loud 99 99;", 1, 8);
        well(x, 0, "ring 0000 at 0023 for 0024;", 1);
        fault(x, 0, "ring 00000 at 0 for 1;", 1, 5);
        fault(x, 0, "ring 0 at 00000 for 1;", 1, 10);
        fault(x, 0, "ring 0 at 0 for 00001;", 1, 16);
        fault(x, 1, "loud 1/00000;", 1, 7);
    }

    /** «Blanks (32, 10) between» */
    private static void blanks() {
        UnbornBells x = Parishes.ofPitches(5);
        well(x, 0, " \n ", 0);
        well(x, 0, "\nring\n0\nat\n0\nfor\n1\n;\n", 1);
        well(x, 1, "  loud  1  when  1  <  2  ;  ", 1);
        int[] none = {0, 1, 9, 11, 12, 13, 31, 33, 127, 128, 160};
        for (int sign : none) {
            fault(x, 0, (char) sign + "", 1, 0);
            fault(x, 0, "ring" + (char) sign + "0 at 0 for 1;", 1, 4);
            fault(x, 1, "loud 1;" + (char) sign, 1, 7);
        }
        fault(x, 0, "ring " + (char) 255 + "0 at 0 for 1;", 1, 5);
        String signs = "!\"#$%&',.:?@[\\]^_`{|}~";
        for (int i = 0; i < signs.length(); i++) {
            fault(x, 1, "loud 1" + signs.charAt(i) + ";", 1, 6);
        }
    }

    private static void loud(String law, int want) {
        UnbornBells x = Parishes.ofPitches(5);
        T.due("2 «" + law + "»", Checks.tell(x, 1, law) > 0 ? 1 : 0, 1);
        T.due("2 loud by «" + law + "»", x.loud(0, 0, 0), want);
    }

    /** «Ints, which wrap» */
    private static void intsThatWrap() {
        loud("loud 9999*9999*21;", 999);
        loud("loud 9999*9999*22;", 0);
        loud("loud 9999*9999*21+9999*9999;", 0);
        loud("loud 0-9999*9999*21;", 0);
        loud("loud 0-9999*9999*21-9999*9999;", 999);
        loud("loud 9999*9999*43/9999;", 417);
        loud("loud 9999*9999*21+9999*9999*22-9999*9999*43+7;", 7);
        loud("loud 1 when 9999*9999*22<0;loud 2;", 1);
        loud("loud 1 when 9999*9999*21+9999*9999>0;loud 2;", 2);
        loud("loud 1 when 0-9999*9999*21-9999*9999>0;loud 2;", 1);
        // 65536 times 65536 is 0.
        loud("loud 4096*16*4096*16+5;", 5);
    }

    /** «/ goes towards 0» */
    private static void partsTowardsZero() {
        loud("loud 7/2;", 3);
        loud("loud 1/2;", 0);
        // 9999 * 9999 * 22 is -2095407274; by 9999 that is -209561 and a part.
        loud("loud 9999*9999*22/9999+209*1000+561;", 0);
        loud("loud 9999*9999*22/9999+209*1000+562;", 1);
        loud("loud 1 when 9999*9999*22/9999/9999/9999=0;loud 2;", 1);
        loud("loud 9999/9999;", 1);
        loud("loud 3+7/1;", 10);
        loud("loud 9998/9999;", 0);
    }

    /** «FAULTS, the first by its place» */
    private static void firstFaultByItsPlace() {
        UnbornBells x = Parishes.ofPitches(5);
        fault(x, 0, "ring 1 at 24 for 0", 2, 5);
        fault(x, 0, "ring 0 at 24 for 0", 2, 10);
        fault(x, 0, "ring 0 at 0 for 0", 2, 16);
        fault(x, 0, "ring 0 at 0 for 1 ring", 1, 18);
        fault(x, 1, "loud 1/0+;", 2, 7);
        fault(x, 1, "loud 1+;loud 1/0;", 1, 7);
        fault(x, 1, "loud + 1;", 1, 5);
        fault(x, 1, "loud 1 when 1 and 1<2;", 1, 14);
        fault(x, 1, "loud 1 when or 1<2;", 1, 12);
        fault(x, 1, "loud 1 when 1<2/0 and 1<2;", 2, 16);
        fault(x, 1, "loud 1 when (((((((((1/0", 3, 20);
        fault(x, 1, "loud 1 when ((((((((1/0", 2, 22);
        fault(x, 1, "loud 1;".repeat(15) + "loud 1/0;loud 1;", 2, 112);
    }

    /** «at one place the least» */
    private static void atOnePlaceTheLeast() {
        UnbornBells x = Parishes.ofPitches(5);
        // A NUMBER where none can stand is no NUMBER beyond bounds, nor a BELL that there is not.
        fault(x, 0, "ring 0 99", 1, 7);
        fault(x, 0, "9", 1, 0);
        fault(x, 1, "loud 1/7 0;", 1, 9);
        // Another word is no 17th line, nor 21st.
        fault(x, 1, "loud 1;".repeat(16) + "come 1;", 1, 112);
        fault(x, 2, "come 1;".repeat(16) + "loud 1;", 1, 112);
        fault(x, 0, "ring 0 at 7 for 1;".repeat(20) + "rings", 1, 360);
        // A bracket or a not where none can stand is no ninth one.
        fault(x, 1, "loud 1 when ((((((((1<(", 1, 22);
        fault(x, 1, "loud 1 when ((((((((1<not", 1, 22);
        fault(x, 1, "loud 1 when ((((((((1<2(", 1, 23);
        fault(x, 1, "loud 1 when ((((((((1<2 not", 1, 24);
        fault(x, 1, "loud (", 1, 5);
    }

    /** «1 what can't stand there (the end: the text's length)» */
    private static void faultAtTheEnd() {
        UnbornBells x = Parishes.ofPitches(5);
        String line = "ring 0 at 7 for 1";
        int[] lengths = {4, 5, 6, 7, 9, 10, 11, 12, 15, 16, 17};
        for (int length : lengths) {
            fault(x, 0, line.substring(0, length), 1, length);
        }
        fault(x, 0, line + "  \n", 1, line.length() + 3);
        String[] laws = {"loud", "loud ", "loud 1", "loud 1+", "loud 1*", "loud 1/", "loud 1/2", "loud 1 when", "loud 1 when 1",
            "loud 1 when 1<", "loud 1 when 1<2", "loud 1 when (", "loud 1 when (1<2", "loud 1 when (1<2)", "loud 1 when not",
            "loud 1 when 1<2 and", "loud 1 when 1<2 or", "loud 1;loud"};
        for (String law : laws) {
            fault(x, 1, law, 1, law.length());
        }
        well(x, 1, "loud 1;", 1);
        well(x, 1, "", 0);
    }

    /** «2 (at the NUMBER) a part by 0» */
    private static void partsByZero() {
        UnbornBells x = Parishes.ofPitches(5);
        fault(x, 1, "loud 1/0;", 2, 7);
        fault(x, 1, "loud 1 / 000;", 2, 9);
        fault(x, 1, "loud 1*2/0;", 2, 9);
        fault(x, 1, "loud 1 when 1<2/0;", 2, 16);
        fault(x, 2, "slack hope/0;", 2, 11);
        well(x, 1, "loud 0/1;", 1);
        well(x, 1, "loud 1/9999;", 1);
        well(x, 1, "loud 0*0+0-0;", 1);
        fault(x, 1, "loud 1/weight;", 1, 7);
        fault(x, 1, "loud 1/;", 1, 7);
    }

    /** «2 (at the NUMBER) .. one beyond its bounds» */
    private static void beyondBounds() {
        UnbornBells x = Parishes.ofPitches(5);
        fault(x, 0, "ring 0 at 0024 for 1;", 2, 10);
        fault(x, 0, "ring 0 at 9999 for 1;", 2, 10);
        fault(x, 0, "ring 0 at 0 for 0000;", 2, 16);
        fault(x, 0, "ring 0 at 0 for 9999;", 2, 16);
        well(x, 0, "ring 0 at 0023 for 0001;", 1);
        well(x, 1, "loud 0;loud 9999;", 2);
    }

    /** «2 (at the NUMBER) .. a BELL that there is not» */
    private static void bellsThatThereAreNot() {
        fault(new UnbornBells(), 0, "ring 0 at 0 for 1;", 2, 5);
        UnbornBells x = Parishes.ofPitches(5);
        well(x, 0, "ring 0 at 0 for 1;", 1);
        fault(x, 0, "ring 1 at 0 for 1;", 2, 5);
        x = Parishes.ofPitches(0, 1, 2, 3, 4, 5, 6, 7, 8, 9);
        well(x, 0, "ring 9 at 0 for 1;", 1);
        fault(x, 0, "ring 10 at 0 for 1;", 2, 5);
        x.melt(9);
        well(x, 0, "ring 9 at 0 for 1;", 1);
        T.due("2 it is there, but sounds no more", x.of(9, 8), 0);
    }

    /** «3 .. (at it) the 9th ( or not that is open» */
    private static void nineOpen() {
        UnbornBells x = Parishes.ofPitches(5);
        well(x, 1, "loud 1 when " + "(".repeat(8) + "1<2" + ")".repeat(8) + ";", 1);
        fault(x, 1, "loud 1 when " + "(".repeat(9) + "1<2" + ")".repeat(9) + ";", 3, 20);
        well(x, 1, "loud 1 when " + "not ".repeat(8) + "1<2;", 1);
        fault(x, 1, "loud 1 when " + "not ".repeat(9) + "1<2;", 3, 44);
        fault(x, 1, "loud 1 when " + "not(".repeat(4) + "(1<2)" + ")".repeat(4) + ";", 3, 28);
        fault(x, 1, "loud 1 when " + "(not ".repeat(4) + "not 1<2" + ")".repeat(4) + ";", 3, 32);
        well(x, 1, "loud 1 when " + "not(".repeat(4) + "1<2" + ")".repeat(4) + ";", 1);
        // One that is shut is open no more; a not is shut with what it denies.
        well(x, 1, "loud 1 when " + "(1<2)and".repeat(20) + "(1<2);", 1);
        well(x, 1, "loud 1 when " + "not 1<2 or ".repeat(20) + "not 1<2;", 1);
        well(x, 1, "loud 1 when " + "(".repeat(7) + "(1<2)or(1<2)and not 1<2" + ")".repeat(7) + ";", 1);
        fault(x, 1, "loud 1 when " + "(".repeat(7) + "(1<2)or((1<2))" + ")".repeat(7) + ";", 3, 27);
        fault(x, 1, "loud 1 when " + "(".repeat(7) + "not 1<2 or not(1<2)" + ")".repeat(7) + ";", 3, 33);
        well(x, 1, "loud 1 when " + "not ".repeat(8) + "1<2 and " + "not ".repeat(8) + "1<2;", 1);
        well(x, 2, "come 1 when " + "(".repeat(8) + "1<2" + ")".repeat(8) + "; slack 1 when " + "(".repeat(8) + "1<2" + ")".repeat(8) + ";", 2);
    }

    /** A tape that is full, 400 bytes, as each text. */
    private static void fullTape() {
        UnbornBells x = Parishes.ofPitches(5);
        well(x, 0, " ".repeat(382) + "ring 0 at 0 for 1;", 1);
        fault(x, 0, " ".repeat(383) + "ring 0 at 0 for 1", 1, 400);
        well(x, 1, "loud 1" + "+1".repeat(196) + " ;", 1);
        T.due("2 197 times 1", x.loud(0, 0, 0), 197);
        fault(x, 1, "loud 1" + "+1".repeat(197), 1, 400);
        well(x, 2, "come 1" + "-0".repeat(196) + " ;", 1);
        fault(x, 2, ";".repeat(400), 1, 0);
        fault(x, 0, "1".repeat(400), 1, 0);
        fault(x, 0, "a".repeat(400), 1, 0);
        fault(x, 1, "loud " + "a".repeat(395), 1, 5);
        well(x, 1, "\n".repeat(400), 0);
    }

    private static void when(String condition, boolean so) {
        loud("loud 1 when " + condition + ";loud 2;", so ? 1 : 2);
    }

    /** «C = E (< | = | >) E»: what is alike is neither less nor more. */
    private static void comparisons() {
        when("2<3", true);
        when("3<3", false);
        when("3<2", false);
        when("2=3", false);
        when("3=3", true);
        when("3>2", true);
        when("3>3", false);
        when("2>3", false);
        when("0-1<0", true);
        when("0>0-1", true);
        when("1<2 and 1=1", true);
        when("2>1 and 1=1", true);
        when("not 1<2", false);
        when("not 2>1", false);
        when("1+2=4-1", true);
        when("2*3/6=1", true);
    }

    /** «B = A {or A}. A = C {and C}. C = .. not C | ( B )»: each with what is so and what is not. */
    private static void andOrNot() {
        String[] is = {"1=2", "1=1"};
        for (int a = 0; a < 2; a++) {
            when("not " + is[a], a == 0);
            when("not not " + is[a], a == 1);
            when("not(" + is[a] + ")", a == 0);
            when("(" + is[a] + ")", a == 1);
            for (int b = 0; b < 2; b++) {
                when(is[a] + " and " + is[b], a + b == 2);
                when(is[a] + " or " + is[b], a + b > 0);
                when("not " + is[a] + " and " + is[b], a < b);
                when("not " + is[a] + " or " + is[b], a <= b);
                when("not(" + is[a] + " and " + is[b] + ")", a + b < 2);
                for (int c = 0; c < 2; c++) {
                    when(is[a] + " or " + is[b] + " and " + is[c], a + b * c > 0);
                    when(is[a] + " and " + is[b] + " or " + is[c], a * b + c > 0);
                    when("(" + is[a] + " or " + is[b] + ") and " + is[c], (a + b) * c > 0);
                    when(is[a] + " and (" + is[b] + " or " + is[c] + ")", a * (b + c) > 0);
                    when(is[a] + " or " + is[b] + " or " + is[c], a + b + c > 0);
                    when(is[a] + " and " + is[b] + " and " + is[c], a + b + c == 3);
                }
            }
        }
    }

    /** «E of the first line .. whose B is so, or that has none» */
    private static void firstLineThatIsSo() {
        loud("loud 1;loud 2;", 1);
        loud("loud 1 when 1=2;loud 2;", 2);
        loud("loud 1 when 1=1;loud 2;", 1);
        loud("loud 1 when 1=2;loud 2 when 1=2;loud 3 when 1=1;loud 4;", 3);
        loud("loud 1 when 1=2;".repeat(15) + "loud 7;", 7);
        loud("loud 1 when 1=2;", 50);
    }

    /** «held to 0 .. 999» */
    private static void loudHeld() {
        loud("loud 0;", 0);
        loud("loud 0-1;", 0);
        loud("loud 998;", 998);
        loud("loud 999;", 999);
        loud("loud 1000;", 999);
    }

    /** «(none: WEIGHT less FAR), held to 0 ..» */
    private static void loudWithoutALine() {
        UnbornBells x = new UnbornBells();
        x.bell(0, 0, 1, 0);
        x.bell(0, 0, 99, 0);
        x.far(0, 1, 1);
        x.far(0, 2, 2);
        x.far(0, 3, 99);
        T.due("2 its own tower", x.loud(0, 0, 0), 1);
        T.due("2 as far as it is loud", x.loud(0, 1, 0), 0);
        T.due("2 0 at least", x.loud(0, 2, 0), 0);
        T.due("2 farthest", x.loud(1, 3, 0), 0);
        T.due("2 far", x.loud(1, 2, 0), 97);
    }

    /** «far: FAR of its TOWER and that one; all else the BELL's, or told» */
    private static void quantitiesOfSound() {
        UnbornBells x = Parishes.ofPitches(1, 2);
        x.bell(2, 47, 9, 31);
        x.far(2, 3, 99);
        x.set(1, 0, 9);
        x.set(4, 2, 1);
        String[] names = {"weight", "pitch", "hope", "cracked", "frost", "far", "hour", "muffled"};
        int[] dues = {9, 47, 31, 1, 9, 99, 23, 1};
        x.muffle(2, true);
        for (int i = 0; i < names.length; i++) {
            Checks.tell(x, 1, "loud " + names[i] + ";");
            T.due("2 " + names[i], x.loud(2, 3, 23), dues[i]);
        }
        x.muffle(2, false);
        T.due("2 muffled no more", x.loud(2, 3, 23), 0);
        T.due("2 not muffled", x.loud(0, 3, 23), 0);
        Checks.tell(x, 1, "loud far;");
        T.due("2 far of its own tower", x.loud(2, 2, 0), 0);
        Checks.tell(x, 1, "loud hour;");
        T.due("2 hour 0", x.loud(2, 2, 0), 0);
    }

    /** «clear: in how many HOURS of a day», «day: DAY, days: DAYS» */
    private static void quantitiesOfComing() {
        UnbornBells x = Parishes.ofPitches(1, 20);
        Checks.tell(x, 0, "ring 0 at 0 for 24;");
        Checks.tell(x, 2, "come 0;");
        x.days(3);
        x.set(1, 0, 7);
        x.set(4, 0, 1);
        Checks.tell(x, 0, "ring 0 at 0 for 24; ring 1 at 3 for 1;");
        x.days(2);
        String[] names = {"weight", "pitch", "hope", "cracked", "frost", "clear", "days", "day"};
        int[] first = {50, 1, 40, 1, 7, 24, 5, 5};
        int[] second = {50, 20, 40, 0, 7, 1, 2, 5};
        for (int i = 0; i < names.length; i++) {
            Checks.tell(x, 2, "come " + names[i] + "; slack " + names[i] + ";");
            T.due("2 come by " + names[i], x.of(0, 10), first[i]);
            T.due("2 slack by " + names[i], x.of(0, 11), first[i]);
            T.due("2 come by " + names[i], x.of(1, 10), second[i]);
        }
        x.set(5, 1, 2);
        Checks.tell(x, 2, "come clear;");
        T.due("2 clear in all but one", x.of(0, 10), 23);
        T.due("2 clear in none", x.of(1, 10), 0);
    }

    /** «A BELL sounds in an HOUR, if it is RUNG and one of its lines has that HOUR» */
    private static void soundsIfRung() {
        UnbornBells x = Parishes.ofPitches(1, 2, 3);
        Checks.tell(x, 0, "ring 0 at 5 for 2; ring 0 at 6 for 2; ring 2 at 5 for 1;");
        T.due("2 of lines that overlap", x.of(0, 8), Checks.set(5, 6, 7));
        T.due("2 without a line", x.of(1, 8), 0);
        T.due("2 by its own lines", x.of(2, 8), Checks.set(5));
        x.muffle(0, true);
        T.due("2 muffled, it sounds", x.of(0, 8), Checks.set(5, 6, 7));
        x.melt(0);
        T.due("2 melted, it does not", x.of(0, 8), 0);
        Checks.tell(x, 2, "come 1000;");
        x.days(1);
        T.due("2 it hangs, it does not", x.of(2, 8), 0);
    }

    /** «whose PITCH is less than NEAR from its own» */
    private static void nearerThanNear() {
        for (int near = 0; near <= 12; near++) {
            for (int apart = 0; apart <= 13; apart++) {
                UnbornBells x = Parishes.ofPitches(20, 20 + apart, 47);
                x.set(0, 0, near);
                Checks.tell(x, 0, "ring 0 at 3 for 1; ring 1 at 3 for 1;");
                int want = apart < near ? 0 : 1 << 3;
                T.due("2 near " + near + ", " + apart + " above it", x.of(0, 9), want);
                T.due("2 near " + near + ", " + apart + " below it", x.of(1, 9), want);
            }
        }
    }

    /** «half as LOUD at its TOWER at least (twice that is not below its own LOUD there)» */
    private static void halfAsLoud() {
        int[][] cases = {{40, 20, 0}, {40, 19, 1}, {41, 21, 0}, {41, 20, 1}, {1, 1, 0}, {1, 0, 1}, {0, 0, 0}, {999, 500, 0}, {999, 499, 1}};
        for (int[] c : cases) {
            UnbornBells x = Parishes.ofPitches(20, 21);
            Checks.tell(x, 0, "ring 0 at 3 for 1; ring 1 at 3 for 1;");
            Checks.tell(x, 1, "loud " + c[0] + " when pitch = 20; loud " + c[1] + ";");
            T.due("2 " + c[0] + " against " + c[1], x.of(0, 9), c[2] << 3);
            Checks.tell(x, 0, "ring 0 at 3 for 1; ring 1 at 4 for 1;");
            T.due("2 in another hour", x.of(0, 9), 1 << 3);
        }
    }

    /** «COME .. held to 0 .. 1000» */
    private static void comeHeld() {
        int[][] cases = {{0, 0}, {1, 1}, {999, 999}, {1000, 1000}, {1001, 1000}, {9999, 1000}};
        for (int[] c : cases) {
            T.due("2 come " + c[0], Parishes.oneBell(9, "come " + c[0] + ";").of(0, 10), c[1]);
        }
        T.due("2 come below 0", Parishes.oneBell(9, "come 0-1;").of(0, 10), 0);
        T.due("2 come that wraps", Parishes.oneBell(9, "come 9999*9999*22;").of(0, 10), 0);
    }

    /** «SLACK .. held to .. 0 .. 99» */
    private static void slackHeld() {
        int[][] cases = {{0, 0}, {1, 1}, {98, 98}, {99, 99}, {100, 99}, {9999, 99}};
        for (int[] c : cases) {
            T.due("2 slack " + c[0], Parishes.oneBell(9, "slack " + c[0] + ";").of(0, 11), c[1]);
        }
        T.due("2 slack below 0", Parishes.oneBell(9, "slack 0-1;").of(0, 11), 0);
        T.due("2 slack that wraps", Parishes.oneBell(9, "slack 9999*9999*22;").of(0, 11), 0);
    }

    /** «(none: come ten times clear, slack 0)» */
    private static void comeAndSlackWithoutALine() {
        UnbornBells x = Parishes.ofPitches(20);
        T.due("2 come in no hour", x.of(0, 10), 0);
        for (int n = 1; n <= 24; n++) {
            Checks.tell(x, 0, "ring 0 at 20 for " + n + ";");
            T.due("2 come in " + n, x.of(0, 10), 10 * n);
        }
        T.due("2 slack", x.of(0, 11), 0);
        Checks.tell(x, 2, "slack 7;");
        T.due("2 come without a line of its own", x.of(0, 10), 240);
        Checks.tell(x, 2, "come 7;");
        T.due("2 slack without a line of its own", x.of(0, 11), 0);
        Checks.tell(x, 2, "come 7 when 1 = 2; slack 7 when 1 = 2;");
        T.due("2 come without a line that is so", x.of(0, 10), 240);
        T.due("2 slack without a line that is so", x.of(0, 11), 0);
        Checks.tell(x, 2, "slack 1; come 2; slack 3; come 4;");
        T.due("2 the first line with that word", x.of(0, 10), 2);
        T.due("2 the first line with that word", x.of(0, 11), 1);
    }

    /** «whose PITCH is 0, 12, 24 or 36 from its own» */
    private static void octavesAstray() {
        for (int apart = 0; apart <= 47; apart++) {
            UnbornBells x = new UnbornBells();
            x.bell(0, 0, 50, 0);
            x.bell(0, apart, 60, 0);
            Checks.tell(x, 0, "ring 0 at 3 for 1; ring 1 at 3 for 1;");
            T.due("2 led astray by one " + apart + " above", x.astray(0, 3), apart % 12 == 0 ? 1 : 0);
            x.set(3, 0, 1);
            Checks.tell(x, 1, "loud 60 when hope = 1; loud 50;");
            T.due("2 led astray by one " + apart + " below", x.astray(1, 3), apart % 12 == 0 ? 0 : 1);
        }
    }

    /** «the LOUDEST at its TOWER; of several itself, else the least» */
    private static void astrayOfSeveral() {
        UnbornBells x = Parishes.ofPitches(0, 12, 24);
        Checks.tell(x, 0, "ring 0 at 3 for 1; ring 1 at 3 for 1; ring 2 at 3 for 1;");
        for (int i = 0; i < 3; i++) {
            T.due("2 itself", x.astray(i, 3), i);
        }
        Checks.tell(x, 1, "loud 49 when pitch = 0; loud 50;");
        T.due("2 the least", x.astray(0, 3), 1);
        T.due("2 itself", x.astray(2, 3), 2);
        Checks.tell(x, 1, "loud 49 when pitch = 24; loud 50;");
        T.due("2 the least", x.astray(2, 3), 0);
        T.due("2 itself", x.astray(1, 3), 1);
        Checks.tell(x, 1, "loud 51 when pitch = 24; loud 50;");
        T.due("2 the loudest", x.astray(0, 3), 2);
        Checks.tell(x, 1, "loud 0;");
        T.due("2 none is loud: itself", x.astray(1, 3), 1);
    }
}
