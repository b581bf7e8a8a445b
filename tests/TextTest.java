import java.nio.charset.StandardCharsets;

/** Promises 10 to 13: the tape, the texts and their faults. */
public final class TextTest {
    private static final Checks T = new Checks("TextTest");
    private static final int NONE = UnbornBells.NONE;

    public static void main(String[] args) {
        tape();
        hours();
        faultsOfHours();
        fullTape();
        laws();
        faultsOfLaws();
        openBrackets();
        lines();
        noSuchText();
        valuesOfLaws();
        conditionsOfLaws();
        T.close();
    }

    private static UnbornBells withBells(int n) {
        UnbornBells x = new UnbornBells();
        for (int i = 0; i < n; i++) {
            x.bell(0, 12, 20, 30);
        }
        return x;
    }

    private static void tape() {
        UnbornBells x = new UnbornBells();
        x.days(1);
        for (int i = 1; i <= 20; i++) {
            T.due("10 feed", x.feed(0x20202020, 0x20202020, 0x20202020, 0x20202020, 0x20202020), 20 * i);
        }
        T.due("10 too much", x.feed(0, 0, 0, 0, 0), NONE);
        T.yes("11 all of it", x.end(400));
        T.no("11 more than it has", x.end(401));
        T.no("11 below 0", x.end(-1));
        T.no("11 far below 0", x.end(Integer.MIN_VALUE));
        T.yes("11 less", x.end(381));
        T.due("10 too much by one", x.feed(0, 0, 0, 0, 0), NONE);
        T.no("11 nothing came", x.end(382));
        T.yes("11 less", x.end(380));
        T.due("10 just enough", x.feed(0x20202020, 0x20202020, 0x20202020, 0x20202020, 0x20202020), 400);
        T.due("12 blanks alone", x.text(0), 0);
        T.no("12 the tape is empty then", x.end(1));
        x.days(1);
        // "loud", " 7 ;", then a number whose bytes are above 127, cut off.
        T.due("10 the highest byte first", x.feed(0x6c6f7564, 0x2037203b, 0xfffefdfc, 0x80ff7f00, -1), 20);
        T.yes("11 cut", x.end(8));
        T.due("12 one line", x.text(1), 1);
        x.feed(0x6c6f7564, 0x2037203b, 0xfffefdfc, 0x80ff7f00, -1);
        T.due("12 not cut", x.text(1), NONE);
        T.due("13 its place", x.fault(1), 8);
        T.due("12 the text stays", x.look(9), 1);
        T.due("10 neither the tape nor a law forgets what can be undone", x.look(12), 1);
        Checks.feed(x, "loud 1");
        T.due("10 behind the tape", x.feed(0x3b6c6f75, 0x6420323b, 0x20202020, 0x20202020, 0x20202020), 26);
        T.due("12 both parts", x.text(1), 2);
    }

    private static void hours() {
        UnbornBells x = withBells(10);
        T.due("12 empty", x.text(0), 0);
        T.due("12 lines", Checks.tell(x, 0, "ring 0 at 23 for 2 ;\nring 9at 0for 24;ring 1 at 7 for 1;ring 1 at 9 for 0002;"), 4);
        T.due("13 no fault", x.fault(0), 0);
        T.due("13 no place", x.fault(1), NONE);
        T.due("13 another what", x.fault(2), NONE);
        T.due("13 another what", x.fault(-1), NONE);
        T.due("12 over midnight", x.of(0, 8), Checks.set(23, 0));
        T.due("12 all day", x.of(9, 8), (1 << 24) - 1);
        T.due("12 two lines", x.of(1, 8), Checks.set(7, 9, 10));
        T.due("12 none", x.of(2, 8), 0);
        T.due("45 lines", x.look(8), 4);
        x.days(1);
        T.due("12 a fault", Checks.tell(x, 0, "ring 0 at 1 for 1; ring"), NONE);
        T.due("12 hours stay", x.of(0, 8), Checks.set(23, 0));
        T.due("12 lines stay", x.look(8), 4);
        T.due("12 a fault forgets nothing", x.look(12), 1);
        T.due("12 told anew", Checks.tell(x, 0, "ring 2 at 22 for 3;"), 1);
        T.due("12 hours forget what can be undone", x.look(12), 0);
        T.due("12 the old ones are gone", x.of(0, 8), 0);
        T.due("12 new ones", x.of(2, 8), Checks.set(22, 23, 0));
        T.due("12 empty", x.text(0), 0);
        T.due("12 none ring", x.of(2, 8), 0);
    }

    private static void fault(UnbornBells x, int k, String text, int what, int place) {
        T.due("12 «" + text + "»", Checks.tell(x, k, text), NONE);
        T.due("13 fault of «" + text + "»", x.fault(0), what);
        T.due("13 place of «" + text + "»", x.fault(1), place);
        T.no("12 the tape is empty", x.end(1));
    }

    private static void well(UnbornBells x, int k, String text, int lines) {
        T.due("12 «" + text + "»", Checks.tell(x, k, text), lines);
        T.due("13 fault of «" + text + "»", x.fault(0), 0);
        T.due("13 place of «" + text + "»", x.fault(1), NONE);
    }

    private static void faultsOfHours() {
        UnbornBells x = withBells(3);
        fault(x, 0, "ring", 1, 4);
        fault(x, 0, "ring 0 at 1 for 1", 1, 17);
        fault(x, 0, "ring 0 at 1 for 1 \n ", 1, 20);
        fault(x, 0, "rings 0 at 1 for 1;", 1, 0);
        fault(x, 0, "Ring 0 at 1 for 1;", 1, 0);
        fault(x, 0, "ringat", 1, 0);
        fault(x, 0, " 5 ring", 1, 1);
        fault(x, 0, "ring at 0", 1, 5);
        fault(x, 0, "ring 0 for", 1, 7);
        fault(x, 0, "ring 0 at ;", 1, 10);
        fault(x, 0, "ring 0 at 1 at", 1, 12);
        fault(x, 0, "ring 0 at 1 for ;", 1, 16);
        fault(x, 0, "ring 0 at 1 for 2 3;", 1, 18);
        fault(x, 0, "ring 0 at 1 for 2;;", 1, 18);
        fault(x, 0, "ring 0 at 1 for 2; loud 5;", 1, 19);
        fault(x, 0, "ring 0 at 1 for 2; .", 1, 19);
        fault(x, 0, "ring 0\tat 1 for 2;", 1, 6);
        fault(x, 0, "ring 0\rat 1 for 2;", 1, 6);
        fault(x, 0, "ring 3 at 1 for 2;", 2, 5);
        fault(x, 0, "ring 9999 at 1 for 2;", 2, 5);
        fault(x, 0, "ring 00000 at 1 for 2;", 1, 5);
        fault(x, 0, "ring -1 at 1 for 2;", 1, 5);
        fault(x, 0, "ring 0002 at 24 for 2;", 2, 13);
        fault(x, 0, "ring 2 at 23 for 0;", 2, 17);
        fault(x, 0, "ring 2 at 23 for 25;", 2, 17);
        fault(x, 0, "ring 3 at 99 for 0", 2, 5);
        well(x, 0, "ring 2 at 23 for 24;", 1);
        well(x, 0, " \n ring 2 at 0 for 1;\n", 1);
        x = new UnbornBells();
        fault(x, 0, "ring 0 at 1 for 2;", 2, 5);
        byte[] beyond = "ring 0".getBytes(StandardCharsets.ISO_8859_1);
        beyond[4] = (byte) 0xa0;
        Checks.feed(x, beyond);
        T.due("12 a byte above 127", x.text(0), NONE);
        T.due("13 it can't stand there", x.fault(0), 1);
        T.due("13 its place", x.fault(1), 4);
    }

    private static void fullTape() {
        UnbornBells x = withBells(1);
        fault(x, 0, ";".repeat(400), 1, 0);
        fault(x, 1, "#".repeat(400), 1, 0);
        fault(x, 1, "loud 5" + ";".repeat(394), 1, 7);
        fault(x, 1, "loud " + "1".repeat(395), 1, 5);
        fault(x, 1, "a".repeat(400), 1, 0);
        fault(x, 1, "loud " + "1+".repeat(197) + "1", 1, 400);
        fault(x, 1, "loud 1 when " + "1<2or ".repeat(64) + "1<2 ", 1, 400);
        fault(x, 1, " ".repeat(396) + "loud", 1, 400);
        well(x, 1, " ".repeat(400), 0);
        well(x, 1, "loud " + "1+".repeat(196) + "1 ;", 1);
        T.due("15 a long sum", x.loud(0, 0, 0), 197);
        well(x, 1, "loud " + "1*".repeat(196) + "7 ;", 1);
        T.due("15 a long product", x.loud(0, 0, 0), 7);
        well(x, 1, "loud 1 when " + "1>2or ".repeat(64) + "1<2;", 1);
        T.due("15 a long choice", x.loud(0, 0, 0), 1);
        well(x, 1, "loud 1 when " + "1<2and ".repeat(53) + "1>2;loud 2;", 2);
        T.due("15 a long claim", x.loud(0, 0, 0), 2);
    }

    private static void laws() {
        UnbornBells x = withBells(1);
        well(x, 1, "", 0);
        well(x, 1, "loud 9999;", 1);
        well(x, 1, "loud weight+pitch-hope*cracked/7 when frost<far;loud hour when muffled=1;", 2);
        T.due("45 lines of sound", x.look(9), 2);
        T.due("45 lines of coming", x.look(10), 0);
        well(x, 2, "come clear*days-day;slack weight;come pitch+hope+cracked+frost when not 1 > 2;", 3);
        T.due("45 lines of sound", x.look(9), 2);
        T.due("45 lines of coming", x.look(10), 3);
        fault(x, 2, "come", 1, 4);
        T.due("12 the law stays", x.look(10), 3);
        well(x, 2, "", 0);
        T.due("12 no lines then", x.look(10), 0);
        well(x, 1, "loud 1 when(1=1)and(2>1)or not(3<2);", 1);
    }

    private static void faultsOfLaws() {
        UnbornBells x = withBells(1);
        fault(x, 1, "come 5;", 1, 0);
        fault(x, 1, "ring 0 at 1 for 1;", 1, 0);
        fault(x, 1, "loud;", 1, 4);
        fault(x, 1, "loud clear;", 1, 5);
        fault(x, 1, "loud days;", 1, 5);
        fault(x, 1, "loud day;", 1, 5);
        fault(x, 1, "loud weigh;", 1, 5);
        fault(x, 1, "loud weightt;", 1, 5);
        fault(x, 1, "loud Weight;", 1, 5);
        fault(x, 1, "loud 5 5;", 1, 7);
        fault(x, 1, "loud 5 +;", 1, 8);
        fault(x, 1, "loud 5 * * 2;", 1, 9);
        fault(x, 1, "loud 5 / 0;", 2, 9);
        fault(x, 1, "loud 5 / 0000;", 2, 9);
        fault(x, 1, "loud 5 / 00000;", 1, 9);
        fault(x, 1, "loud 5 / hope;", 1, 9);
        fault(x, 1, "loud 12345;", 1, 5);
        fault(x, 1, "loud -5;", 1, 5);
        fault(x, 1, "loud (5);", 1, 5);
        fault(x, 1, "loud 5 when;", 1, 11);
        fault(x, 1, "loud 5 when 1;", 1, 13);
        fault(x, 1, "loud 5 when 1 < 2 < 3;", 1, 18);
        fault(x, 1, "loud 5 when 1 < (2);", 1, 16);
        fault(x, 1, "loud 5 when (1 < 2;", 1, 18);
        fault(x, 1, "loud 5 when 1 < 2);", 1, 17);
        fault(x, 1, "loud 5 when (1) < 2;", 1, 14);
        fault(x, 1, "loud 5 when 1 < 2 and;", 1, 21);
        fault(x, 1, "loud 5 when or 1 < 2;", 1, 12);
        fault(x, 1, "loud 5 when 1 < 2 not 1 < 2;", 1, 18);
        fault(x, 1, "loud 5 when 1 < 2 when 1 < 2;", 1, 18);
        fault(x, 1, "loud 5 when 1 = = 2;", 1, 16);
        fault(x, 1, "loud 5 when 6 / 0 = 2;", 2, 16);
        fault(x, 1, "loud 5 when 1 < 2", 1, 17);
        fault(x, 1, "loud 5 when 1 < 2 / 0;", 2, 20);
        fault(x, 1, "loud 5 when 1 < 2 or 1 = 1 / 0 and 1 = 1;", 2, 29);
        fault(x, 1, "Aloud 5;", 1, 0);
        fault(x, 1, "Loud 5;", 1, 0);
        fault(x, 1, "louda 5;", 1, 0);
        fault(x, 1, "loudz 5;", 1, 0);
        fault(x, 1, "loud@5;", 1, 4);
        fault(x, 1, "loud[5;", 1, 4);
        fault(x, 1, "loud`5;", 1, 4);
        fault(x, 1, "loud{5;", 1, 4);
        fault(x, 1, "lou d 5;", 1, 0);
        fault(x, 1, "loud 5:", 1, 6);
        fault(x, 1, "loud 5; loud 6 when 1 < 2; lod 7;", 1, 27);
        fault(x, 2, "loud 5;", 1, 0);
        fault(x, 2, "come far;", 1, 5);
        fault(x, 2, "come hour;", 1, 5);
        fault(x, 2, "slack muffled;", 1, 6);
        fault(x, 2, "slack loud;", 1, 6);
        fault(x, 2, "come when 1 < 2;", 1, 5);
        fault(x, 2, "come slack;", 1, 5);
        fault(x, 2, "come 1 / 0 when;", 2, 9);
        fault(x, 2, "come 1 \n\n / \n 0", 2, 14);
        T.due("13 told still", x.fault(0), 2);
        Checks.feed(x, "come 1;");
        T.due("13 until the next text", x.fault(1), 14);
        x.text(2);
        T.due("13 then no more", x.fault(1), NONE);
    }

    private static void openBrackets() {
        UnbornBells x = withBells(1);
        well(x, 1, "loud 1 when ((((((((1<2))))))));", 1);
        fault(x, 1, "loud 1 when (((((((((1<2)))))))));", 3, 20);
        well(x, 1, "loud 1 when not not not not not not not not 1<2;", 1);
        fault(x, 1, "loud 1 when not not not not not not not not not 1<2;", 3, 44);
        fault(x, 1, "loud 1 when not not not not(not not not not(1<2));", 3, 40);
        well(x, 1, "loud 1 when not not not not not not not not 1<2 and not not not not not not not not 1<2;", 1);
        well(x, 1, "loud 1 when ((((((((1<2)))))))) or ((((((((1<2))))))));", 1);
        well(x, 1, "loud 1 when (not not not 1<2 and not(not(not not(1=1)))or(1=2));", 1);
        fault(x, 1, "loud 1 when not not not not not not not not 1<2 or not not not not not not not not ( 1<2);", 3, 83);
        fault(x, 2, "come 1 when ((((((((((", 3, 20);
        well(x, 2, "come 1 when (1<2) and (1<2) and (1<2) and (1<2) and (1<2) and (1<2) and (1<2) and (1<2) and (1<2);", 1);
    }

    private static void lines() {
        UnbornBells x = withBells(1);
        StringBuilder text = new StringBuilder();
        for (int i = 0; i < 20; i++) {
            text.append("ring 0 at ").append(i).append(" for 1;");
        }
        well(x, 0, text.toString(), 20);
        int length = text.length();
        fault(x, 0, text + "ring", 3, length);
        fault(x, 0, text + " ring 0 at 99", 3, length + 1);
        fault(x, 0, text + "rin", 1, length);
        fault(x, 0, text + ";", 1, length);
        for (int k = 1; k <= 2; k++) {
            text = new StringBuilder();
            for (int i = 0; i < 16; i++) {
                text.append(k == 1 ? "loud 5;" : i % 2 == 0 ? "come 5;" : "slack 5;");
            }
            well(x, k, text.toString(), 16);
            length = text.length();
            fault(x, k, text + (k == 1 ? "loud" : "slack"), 3, length);
            fault(x, k, text + " " + (k == 1 ? "loud" : "come") + " 5;", 3, length + 1);
            fault(x, k, text + (k == 1 ? "come" : "loud"), 1, length);
            fault(x, k, text + "5", 1, length);
        }
    }

    private static void noSuchText() {
        UnbornBells x = withBells(1);
        fault(x, 1, "loud", 1, 4);
        int[] none = {3, -1, Integer.MIN_VALUE, Integer.MAX_VALUE};
        for (int k : none) {
            fault(x, 1, "loud", 1, 4);
            T.due("12 no such text", Checks.tell(x, k, "loud 5;"), NONE);
            T.due("13 tells 0", x.fault(0), 0);
            T.due("13 no place", x.fault(1), NONE);
            T.no("12 the tape is empty", x.end(1));
        }
    }

    private static void loud(String text, int want) {
        UnbornBells x = new UnbornBells();
        x.bell(1, 13, 20, 30);
        x.far(1, 2, 4);
        x.set(1, 0, 7);
        x.set(4, 0, 1);
        T.due("12 «" + text + "»", Checks.tell(x, 1, text) >= 0 ? 1 : 0, 1);
        T.due("15 by «" + text + "»", x.loud(0, 2, 9), want);
    }

    private static void valuesOfLaws() {
        loud("loud weight;", 20);
        loud("loud pitch;", 13);
        loud("loud hope;", 30);
        loud("loud cracked;", 1);
        loud("loud frost;", 7);
        loud("loud far;", 4);
        loud("loud hour;", 9);
        loud("loud muffled;", 0);
        loud("loud 2 + 3 * 4;", 14);
        loud("loud 20 - 3 - 4;", 13);
        loud("loud 20 - 3 + 4 * 2 - 1;", 24);
        loud("loud 100 / 7 * 7;", 98);
        loud("loud 100 * 7 / 6 / 5;", 23);
        loud("loud 7 * 3 / 2 + 1;", 11);
        loud("loud 500 + 600;", 999);
        loud("loud 999 + 0;", 999);
        loud("loud 3 - 4;", 0);
        loud("loud weight - far * 2 + hour / 2;", 16);
        loud("loud 100 - 7 / 2;", 97);
        loud("loud 7 / 1;", 7);
        loud("loud 9999 / 9999;", 1);
        // 9999 * 9999 * 22 wraps to -2095407274; a seventh of it is -299343896.28..
        loud("loud 9999 * 9999 * 22 / 7 + 2993 * 1000 * 100 + 43 * 1000 + 900;", 4);
        loud("loud 9999 * 9999 * 9999 * 9999 / 9999 / 9999 / 100;", wrapped() < 0 ? 0 : Math.min(999, wrapped()));
        loud("loud 500 + 9999 * 9999 * 50 / 9999 / 9999 / 10;", 500 + 9999 * 9999 * 50 / 9999 / 9999 / 10);
        loud("loud 9999 * 9999 * 43 - 9999 * 9999 * 42 - 9999 * 9999 + 5;", 5);
    }

    private static int wrapped() {
        return 9999 * 9999 * 9999 * 9999 / 9999 / 9999 / 100;
    }

    private static void when(String condition, boolean holds) {
        loud("loud 1 when " + condition + "; loud 2;", holds ? 1 : 2);
    }

    private static void conditionsOfLaws() {
        when("1 < 2", true);
        when("2 < 2", false);
        when("2 = 2", true);
        when("2 = 3", false);
        when("3 > 2", true);
        when("2 > 2", false);
        when("0 - 5 < 0 - 4", true);
        when("1 = 2 and 1 = 2 or 1 = 1", true);
        when("1 = 1 or 1 = 2 and 1 = 2", true);
        when("(1 = 1 or 1 = 2) and 1 = 2", false);
        when("1 = 2 or 1 = 2 or 1 = 1 and 2 = 2", true);
        when("1 = 1 and 1 = 2 or 1 = 2", false);
        when("not 1 = 2 and 1 = 2", false);
        when("not (1 = 2 and 1 = 2)", true);
        when("not 1 = 1", false);
        when("not 1 = 2", true);
        when("not not 1 = 2", false);
        when("not 1 < 2 or 1 = 2", false);
        when("1 = 1 and not 1 = 1", false);
        when("not not 1 = 1", true);
        when("not 1 = 1 or 1 = 1", true);
        when("1 = 2 or not 1 = 2", true);
        when("1 + 1 = 4 / 2", true);
        when("hour > 8 and hour < 10", true);
        when("9999 * 9999 * 22 > 0", false);
        when("0 - 7 * 1 = 0 - 7", true);
        when("1 + 0 * 5 = 1", true);
        when("9999 * 9999 * 22 / 7 = 0 - 2993 * 1000 * 100 - 43 * 1000 - 896", true);
        StringBuilder deep = new StringBuilder();
        for (int i = 0; i < 8; i++) {
            deep.append("1=2 or 1=1 and (");
        }
        when(deep + "1=2 or 1=1 and 3=2+1*1" + "))))))))", true);
        when(deep + "1=2 or 1=1 and 3=2+1*2" + "))))))))", false);
        loud("loud 1 when 1 = 2; loud 2 when 1 = 2;", 16);
        loud("loud 1 when 1 = 2; loud 3 when 1 = 1; loud 2;", 3);
        loud("loud 4; loud 3 when 1 = 1;", 4);
    }
}
