/** Promises 14 to 16, 19, 20, 31 to 34, 38: who sounds, how loud, how clear, who hears. */
public final class SoundTest {
    private static final Checks T = new Checks("SoundTest");
    private static final int NONE = UnbornBells.NONE;
    private static final int ALL = (1 << 24) - 1;

    public static void main(String[] args) {
        of();
        loud();
        clear();
        clearAcrossTowers();
        astray();
        heard();
        silence();
        ropes();
        chorus();
        free();
        placed();
        quarrels();
        T.close();
    }

    private static void of() {
        UnbornBells x = new UnbornBells();
        x.bell(2, 30, 40, 50);
        x.bell(1, 10, 99, 0);
        Checks.tell(x, 0, "ring 0 at 22 for 4; ring 1 at 5 for 1;");
        int[] first = {2, 30, 40, 50, 0, 0, 0, 0, Checks.set(22, 23, 0, 1), Checks.set(22, 23, 0, 1), 40, 0};
        for (int what = 0; what < 12; what++) {
            T.due("14 of(0, " + what + ")", x.of(0, what), first[what]);
        }
        T.due("14 another what", x.of(0, 12), NONE - 1);
        T.due("14 another what", x.of(0, -1), NONE - 1);
        T.due("14 no such bell", x.of(2, 0), NONE - 1);
        T.due("14 no such bell", x.of(-1, 0), NONE - 1);
        Checks.tell(x, 2, "come weight when pitch = 30; come 5000; slack hope when day = 0; slack 0 - 1;");
        T.due("14 come", x.of(0, 10), 40);
        T.due("14 come, 1000 at most", x.of(1, 10), 1000);
        T.due("14 slack", x.of(0, 11), 50);
        x.set(4, 1, 1);
        x.days(2);
        int[] second = {1, 10, 99, 0, 1, 0, 1, 1, 0, 0, 1000, 0};
        for (int what = 0; what < 12; what++) {
            T.due("14 of(1, " + what + ") that hangs", x.of(1, what), second[what]);
        }
        T.due("14 slack, 0 at least", x.of(0, 11), 0);
        Checks.tell(x, 2, "come 0 - 7; slack 100;");
        T.due("14 come, 0 at least", x.of(0, 10), 0);
        T.due("14 slack, 99 at most", x.of(0, 11), 99);
        Checks.tell(x, 2, "slack 3;");
        T.due("14 come by no line, with no clear hour", x.of(1, 10), 0);
        Checks.tell(x, 2, "come 7 when 1 = 2;");
        T.due("14 come by no line that holds", x.of(0, 10), x.of(0, 6) == 0 ? 40 : 0);
        T.due("14 slack by no line", x.of(0, 11), 0);
        Checks.tell(x, 2, "come clear * 100 + days * 10 + day;");
        T.due("14 come of what was", x.of(1, 10), 12);
        x.melt(1);
        x.muffle(0, true);
        T.due("14 melted", x.of(1, 6), 2);
        T.due("14 muffled", x.of(0, 5), 1);
    }

    private static void loud() {
        UnbornBells x = new UnbornBells();
        x.bell(1, 13, 20, 30);
        x.far(1, 3, 15);
        x.far(1, 0, 25);
        T.due("15 at its tower", x.loud(0, 1, 0), 20);
        T.due("15 afar", x.loud(0, 3, 0), 5);
        T.due("15 0 at least", x.loud(0, 0, 0), 0);
        int[][] wrong = {{-1, 0, 0}, {1, 0, 0}, {0, -1, 0}, {0, 4, 0}, {0, 0, -1}, {0, 0, 24}};
        for (int[] w : wrong) {
            T.due("15 loud " + w[0] + " " + w[1] + " " + w[2], x.loud(w[0], w[1], w[2]), NONE);
        }
        Checks.tell(x, 1, "loud 7 when hour = 23; loud 900 + far * 4 when hour = 0;");
        T.due("15 by the hour", x.loud(0, 1, 23), 7);
        T.due("15 999 at most", x.loud(0, 0, 0), 999);
        T.due("15 less than that", x.loud(0, 3, 0), 960);
        T.due("15 by no line", x.loud(0, 3, 1), 5);
        x.melt(0);
        T.due("15 one that is melted", x.loud(0, 1, 1), 20);
    }

    private static void clear() {
        UnbornBells x = new UnbornBells();
        x.bell(0, 10, 40, 0);
        x.bell(0, 12, 20, 0);
        x.bell(0, 14, 19, 0);
        Checks.tell(x, 0, "ring 0 at 3 for 2; ring 1 at 4 for 1; ring 2 at 3 for 1;");
        T.due("14 none near", x.of(0, 9), Checks.set(3, 4));
        x.set(0, 0, 3);
        T.due("14 half as loud drowns", x.of(0, 9), Checks.set(3));
        T.due("14 drowned by the louder", x.of(1, 9), 0);
        T.due("14 not near", x.of(2, 9), Checks.set(3));
        x.set(0, 0, 5);
        T.due("14 not quite half", x.of(0, 9), Checks.set(3));
        T.due("14 it is drowned", x.of(2, 9), 0);
        x.set(0, 0, 0);
        T.due("14 none is near", x.of(1, 9), Checks.set(4));
        x.set(5, 1, 10);
        T.due("14 even of like pitch", x.of(1, 9), Checks.set(4));
        x.set(0, 0, 1);
        T.due("14 like pitch is near", x.of(1, 9), 0);
        Checks.tell(x, 1, "loud 0;");
        T.due("14 nothing drowns nothing", x.of(0, 9), Checks.set(3));
        x.melt(1);
        T.due("14 a melted one drowns none", x.of(0, 9), Checks.set(3, 4));
    }

    private static void clearAcrossTowers() {
        UnbornBells x = new UnbornBells();
        x.bell(0, 10, 40, 0);
        x.bell(1, 10, 60, 0);
        x.far(0, 1, 41);
        Checks.tell(x, 0, "ring 0 at 6 for 1; ring 1 at 6 for 1;");
        // At tower 0: 40 against 19. At tower 1: 60 against 0.
        T.due("14 far enough", x.of(0, 9), Checks.set(6));
        T.due("14 far enough", x.of(1, 9), Checks.set(6));
        x.far(0, 1, 40);
        T.due("14 not far enough", x.of(0, 9), 0);
        T.due("14 far enough for this one", x.of(1, 9), Checks.set(6));
        Checks.tell(x, 1, "loud 10 when far = 0 and hour = 6; loud 5;");
        T.due("14 by the law", x.of(1, 9), 0);
        Checks.tell(x, 1, "loud 10 when far = 0 and hour = 6; loud 4;");
        T.due("14 by another", x.of(1, 9), Checks.set(6));
    }

    private static void astray() {
        UnbornBells x = new UnbornBells();
        x.bell(0, 0, 50, 0);
        x.bell(1, 12, 70, 0);
        x.bell(1, 24, 70, 0);
        x.bell(0, 36, 50, 0);
        x.bell(2, 35, 99, 0);
        x.bell(0, 47, 98, 0);
        Checks.tell(x, 0, "ring 0 at 1 for 4; ring 1 at 2 for 1; ring 2 at 2 for 2; ring 3 at 1 for 4; ring 4 at 1 for 4; ring 5 at 1 for 1;");
        T.due("16 of several itself", x.astray(0, 1), 0);
        T.due("16 of several itself", x.astray(3, 1), 3);
        T.due("16 else the least", x.astray(0, 2), 1);
        T.due("16 else the least", x.astray(3, 2), 1);
        T.due("16 itself first", x.astray(2, 2), 2);
        T.due("16 the loudest", x.astray(0, 3), 2);
        T.due("16 another octave", x.astray(4, 2), 4);
        x.far(0, 1, 21);
        T.due("16 by how loud it is there", x.astray(0, 2), 0);
        T.due("16 at its own tower", x.astray(1, 2), 1);
        T.due("16 an octave of 12", x.astray(5, 1), 4);
        x.set(5, 5, 35);
        T.due("16 of like pitch", x.astray(4, 1), 4);
        T.due("16 the louder of like pitch", x.astray(5, 1), 4);
        T.due("16 does not sound then", x.astray(0, 5), NONE);
        T.due("16 no such hour", x.astray(0, 24), NONE);
        T.due("16 no such hour", x.astray(0, -1), NONE);
        T.due("16 no such bell", x.astray(6, 1), NONE);
        T.due("16 no such bell", x.astray(-1, 1), NONE);
        x.melt(2);
        T.due("16 not one that is melted", x.astray(0, 3), 0);
        T.due("16 led astray by the first", x.astray(3, 3), 3);
        x.set(5, 3, 24);
        Checks.tell(x, 1, "loud 200 when pitch = 0; loud weight;");
        T.due("16 led astray by the first", x.astray(3, 3), 0);
    }

    private static void heard() {
        UnbornBells x = new UnbornBells();
        x.bell(0, 0, 50, 0);
        x.bell(1, 12, 70, 0);
        x.bell(2, 24, 99, 0);
        x.far(0, 1, 20);
        Checks.tell(x, 0, "ring 0 at 1 for 2; ring 1 at 1 for 1; ring 2 at 3 for 1;");
        T.due("19 both", x.heard(0, 1, 50), Checks.set(0, 1));
        T.due("19 neither", x.heard(0, 1, 51), 0);
        T.due("19 at the other tower", x.heard(1, 1, 31), Checks.set(1));
        T.due("19 in the next hour", x.heard(0, 2, 1), Checks.set(0));
        T.due("19 in none", x.heard(0, 4, 1), 0);
        T.due("19 999", x.heard(2, 3, 999), 0);
        Checks.tell(x, 1, "loud 9999;");
        T.due("19 999", x.heard(2, 3, 999), Checks.set(2));
        int[][] wrong = {{-1, 0, 1}, {4, 0, 1}, {0, -1, 1}, {0, 24, 1}, {0, 0, 0}, {0, 0, 1000}, {0, 0, -5}};
        for (int[] w : wrong) {
            T.due("19 heard " + w[0] + " " + w[1] + " " + w[2], x.heard(w[0], w[1], w[2]), NONE);
        }
    }

    private static void silence(String hours, int length, int first) {
        UnbornBells x = new UnbornBells();
        x.bell(0, 0, 50, 0);
        x.bell(0, 0, 50, 0);
        Checks.tell(x, 0, hours);
        T.due("20 silence(0) by " + hours, x.silence(0), length);
        T.due("20 silence(1) by " + hours, x.silence(1), first);
    }

    private static void silence() {
        silence("", 24, 0);
        silence("ring 0 at 0 for 24;", 0, NONE);
        silence("ring 0 at 0 for 12; ring 1 at 12 for 12;", 0, NONE);
        silence("ring 0 at 0 for 1;", 23, 1);
        silence("ring 0 at 23 for 1;", 23, 0);
        silence("ring 0 at 6 for 1; ring 1 at 12 for 1;", 17, 13);
        silence("ring 0 at 3 for 1; ring 1 at 7 for 8; ring 0 at 18 for 3;", 6, 21);
        silence("ring 0 at 3 for 4; ring 1 at 10 for 11;", 6, 21);
        silence("ring 0 at 2 for 2; ring 1 at 7 for 3; ring 0 at 13 for 8;", 5, 21);
        silence("ring 0 at 2 for 4; ring 1 at 10 for 11;", 5, 21);
        silence("ring 0 at 2 for 4; ring 1 at 10 for 6; ring 0 at 20 for 1;", 5, 21);
        silence("ring 0 at 0 for 4; ring 1 at 8 for 12;", 4, 4);
        silence("ring 0 at 1 for 22;", 2, 23);
        UnbornBells x = new UnbornBells();
        x.bell(0, 0, 50, 0);
        Checks.tell(x, 0, "ring 0 at 0 for 24;");
        T.due("20 another what", x.silence(2), NONE);
        T.due("20 another what", x.silence(-1), NONE);
        x.melt(0);
        T.due("20 melted ones are silent", x.silence(0), 24);
    }

    private static void ropes() {
        UnbornBells x = new UnbornBells();
        for (int i = 0; i < 4; i++) {
            x.bell(0, 5 * i, 50, 0);
        }
        T.due("31 none", x.ropes(0), NONE);
        T.due("31 none", x.ropes(1), 0);
        Checks.tell(x, 0, "ring 0 at 20 for 3; ring 1 at 21 for 2; ring 2 at 4 for 2; ring 3 at 5 for 1; ring 3 at 5 for 1;");
        T.due("31 of several the least", x.ropes(0), 5);
        T.due("31 how many", x.ropes(1), 2);
        x.melt(3);
        T.due("31 then another", x.ropes(0), 21);
        T.due("31 another what", x.ropes(2), NONE);
        T.due("31 another what", x.ropes(-1), NONE);
    }

    private static void chorus() {
        UnbornBells x = new UnbornBells();
        x.bell(0, 0, 50, 0);
        x.bell(1, 10, 60, 0);
        x.bell(2, 20, 70, 0);
        x.far(0, 1, 15);
        Checks.tell(x, 0, "ring 0 at 8 for 2; ring 1 at 9 for 2; ring 2 at 2 for 9;");
        T.due("38 the hour", x.chorus(0, 45, 0), 9);
        T.due("38 how many", x.chorus(0, 45, 1), 3);
        T.due("38 of several the least", x.chorus(0, 46, 0), 8);
        T.due("38 how many", x.chorus(0, 46, 1), 2);
        T.due("38 at another tower", x.chorus(1, 36, 0), 9);
        T.due("38 at another tower", x.chorus(1, 36, 1), 2);
        T.due("38 none is ever heard", x.chorus(0, 71, 0), NONE);
        T.due("38 none is ever heard", x.chorus(0, 71, 1), 0);
        T.due("38 999", x.chorus(0, 999, 1), 0);
        T.due("38 by 1", x.chorus(3, 1, 1), 3);
        int[][] wrong = {{-1, 1, 0}, {4, 1, 1}, {0, 0, 0}, {0, 0, 1}, {0, 1000, 1}, {0, -1, 0}, {0, 1, 2}, {0, 1, -1}};
        for (int[] w : wrong) {
            T.due("38 chorus " + w[0] + " " + w[1] + " " + w[2], x.chorus(w[0], w[1], w[2]), NONE);
        }
    }

    private static void free() {
        UnbornBells x = new UnbornBells();
        x.bell(0, 10, 40, 0);
        x.bell(0, 11, 20, 0);
        x.bell(0, 12, 20, 0);
        x.bell(1, 10, 19, 0);
        Checks.tell(x, 0, "ring 0 at 0 for 1; ring 1 at 1 for 2; ring 2 at 4 for 1; ring 3 at 6 for 1;");
        T.due("32 but where one drowns it", x.free(0), ALL & ~Checks.set(0, 1, 2));
        T.due("32 it sounds then", x.free(1), ALL & ~Checks.set(0, 1, 2, 4, 6));
        T.due("32 no such bell", x.free(4), NONE);
        T.due("32 no such bell", x.free(-1), NONE);
        T.due("32 one that is near, but not loud", x.free(0) >> 6 & 1, 1);
        Checks.tell(x, 1, "loud 1 when hour = 1 and pitch = 11; loud weight;");
        T.due("32 by the hour's law", x.free(0), ALL & ~Checks.set(0, 2));
        x.melt(1);
        T.due("32 not rung", x.free(1), NONE);
        T.due("32 a melted one drowns none", x.free(0), ALL & ~Checks.set(0));
        x = new UnbornBells();
        x.bell(0, 10, 40, 0);
        T.due("32 without hours", x.free(0), ALL);
        Checks.tell(x, 0, "ring 0 at 0 for 24;");
        T.due("32 in none", x.free(0), 0);
        Checks.tell(x, 2, "come 1000;");
        x.days(1);
        T.due("32 it hangs", x.free(0), NONE);
    }

    private static void placed() {
        UnbornBells x = new UnbornBells();
        x.bell(0, 10, 40, 0);
        x.bell(0, 10, 40, 0);
        x.bell(2, 11, 40, 0);
        Checks.tell(x, 0, "ring 0 at 3 for 4; ring 1 at 4 for 2; ring 2 at 5 for 1;");
        T.due("33 alike everywhere", x.placed(0), 0);
        x.far(0, 1, 21);
        // At tower 1 bell 1 is 19 loud, bell 2 drowns it at 5 still.
        T.due("33 far from one", x.placed(0), 1);
        x.far(2, 3, 30);
        x.far(0, 3, 30);
        T.due("33 far from both", x.placed(0), 3);
        T.due("33 nothing is moved", x.of(0, 0), 0);
        x.far(2, 1, 30);
        T.due("33 of several the least", x.placed(0), 1);
        T.due("33 no such bell", x.placed(3), NONE);
        T.due("33 no such bell", x.placed(-1), NONE);
        x.bell(3, 0, 1, 0);
        T.due("33 it never sounds", x.placed(3), 0);
        x.melt(0);
        T.due("33 not rung", x.placed(0), NONE);
        x = new UnbornBells();
        x.bell(3, 10, 40, 0);
        x.bell(3, 10, 25, 0);
        Checks.tell(x, 0, "ring 0 at 3 for 1; ring 1 at 3 for 1;");
        x.far(0, 3, 6);
        x.far(1, 3, 5);
        T.due("33 its own loudness goes along", x.placed(0), 0);
        x.far(0, 3, 4);
        x.far(1, 3, 6);
        T.due("33 its own loudness goes along", x.placed(0), 1);
    }

    private static void quarrels() {
        UnbornBells x = new UnbornBells();
        x.bell(0, 10, 40, 0);
        x.bell(0, 11, 20, 0);
        x.bell(0, 12, 39, 0);
        x.bell(0, 11, 10, 0);
        Checks.tell(x, 0, "ring 0 at 0 for 5; ring 1 at 4 for 3; ring 2 at 6 for 3; ring 3 at 8 for 9;");
        // 0 and 1 at 4: 40 of 20, 80 of 40. 1 and 2 at 6: 2 drowns 1, 40 is not below 39. 2 and 3 at 8: 20 is below 39.
        T.due("34 how many", x.quarrels(0), 2);
        T.due("34 the first", x.quarrels(1), 0);
        T.due("34 the first", x.quarrels(2), 1);
        x.far(0, 1, 50);
        x.melt(0);
        T.due("34 then", x.quarrels(0), 1);
        T.due("34 then", x.quarrels(1), 1);
        T.due("34 then", x.quarrels(2), 2);
        x.set(0, 0, 1);
        T.due("34 none is near", x.quarrels(0), 0);
        T.due("34 none", x.quarrels(1), NONE);
        T.due("34 none", x.quarrels(2), NONE);
        T.due("34 another what", x.quarrels(3), NONE);
        T.due("34 another what", x.quarrels(-1), NONE);
        x = new UnbornBells();
        x.bell(0, 10, 10, 0);
        x.bell(0, 10, 21, 0);
        x.bell(0, 10, 50, 0);
        Checks.tell(x, 0, "ring 0 at 1 for 1; ring 1 at 1 for 1; ring 2 at 1 for 1;");
        T.due("34 but these two: one stays clear", x.quarrels(0), 0);
        x.set(3, 0, 50);
        Checks.tell(x, 1, "loud 20 when hour = 2 and weight = 10; loud weight;");
        Checks.tell(x, 0, "ring 0 at 1 for 2; ring 1 at 1 for 2;");
        T.due("34 in some hour", x.quarrels(0), 1);
        x = new UnbornBells();
        x.bell(0, 10, 40, 0);
        x.bell(1, 10, 60, 0);
        x.far(0, 1, 35);
        Checks.tell(x, 0, "ring 0 at 1 for 2; ring 1 at 1 for 2;");
        T.due("34 one is clear at its own tower", x.quarrels(0), 0);
        x.far(0, 1, 10);
        T.due("34 neither is", x.quarrels(0), 1);
    }
}
