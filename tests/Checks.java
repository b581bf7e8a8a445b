import java.nio.charset.StandardCharsets;

/** What the tests share: telling a text, comparing answers, and the closing line. */
final class Checks {
    private final String name;
    private int asked;
    private int wrong;

    Checks(String name) {
        this.name = name;
    }

    void due(String what, long got, long want) {
        asked++;
        if (got != want) {
            wrong++;
            if (wrong <= 20) {
                System.out.println(name + ": " + what + " answered " + got + ", due is " + want);
            }
        }
    }

    void yes(String what, boolean got) {
        due(what, got ? 1 : 0, 1);
    }

    void no(String what, boolean got) {
        due(what, got ? 1 : 0, 0);
    }

    void close() {
        System.out.println(name + ": " + asked + " answers, " + wrong + " wrong");
        if (wrong != 0) {
            System.exit(1);
        }
    }

    /** Feeds a text and cuts the tape to it. */
    static void feed(UnbornBells bells, String text) {
        feed(bells, text.getBytes(StandardCharsets.ISO_8859_1));
    }

    static void feed(UnbornBells bells, byte[] text) {
        int length = 0;
        for (int from = 0; from < text.length; from += 20) {
            length = bells.feed(number(text, from), number(text, from + 4), number(text, from + 8),
                number(text, from + 12), number(text, from + 16));
        }
        if (length != (text.length + 19) / 20 * 20 || !bells.end(text.length)) {
            throw new IllegalStateException("the tape did not take " + text.length + " bytes");
        }
    }

    private static int number(byte[] text, int from) {
        int number = 0;
        for (int i = from; i < from + 4; i++) {
            number = number << 8 | (i < text.length ? text[i] & 255 : ' ');
        }
        return number;
    }

    static int tell(UnbornBells bells, int k, String text) {
        feed(bells, text);
        return bells.text(k);
    }

    static int set(int... members) {
        int set = 0;
        for (int member : members) {
            set |= 1 << member;
        }
        return set;
    }
}
