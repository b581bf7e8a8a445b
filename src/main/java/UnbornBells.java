import java.util.Arrays;

/** A parish in which each child has its bell. The promises of ../shared/DOC.md say what each call answers. */
public final class UnbornBells {
    public static final int NONE = -1;

    private static final int TOWERS = 4;
    private static final int HOURS_OF_A_DAY = 24;
    private static final int ALL_HOURS = (1 << HOURS_OF_A_DAY) - 1;
    private static final int MOST_BELLS = 10;
    private static final int MOST_CHILDREN = 20;
    private static final int MOST_BOOK_LINES = 120;
    private static final int MOST_TURNS = 12;
    private static final int MOST_BYTES = 400;
    private static final int TOP_PITCH = 47;
    private static final int MOST_LOUD = 999;
    private static final int LAST_DAY = 9999;
    private static final int MILLION = 1000000;

    private static final int RUNG = 0;
    private static final int HANGS = 1;
    private static final int MELTED = 2;

    private static final int IN_BOOK_CHILD = 0;
    private static final int IN_BOOK_MELTED = 1;
    private static final int IN_BOOK_SWAPPED = 2;

    private static final int OWN = 0;
    private static final int CAME = 1;
    private static final int BORN = 2;

    private static final int TURN_CHILD = 0;
    private static final int TURN_HOUR = 1;
    private static final int TURN_TOWER = 2;

    // Kinds of tokens. A sign is its own character; the words stand in the order of Tokens.WORDS.
    private static final int END_OF_TEXT = 0;
    private static final int NO_TOKEN = 1;
    private static final int NUMBER = 2;
    private static final int FIRST_WORD = 128;
    private static final int RING = 128;
    private static final int AT = 129;
    private static final int FOR = 130;
    private static final int LOUD = 131;
    private static final int COME = 132;
    private static final int SLACK = 133;
    private static final int WHEN = 134;
    private static final int OR = 135;
    private static final int AND = 136;
    private static final int NOT = 137;
    private static final int WEIGHT = 138;
    private static final int PITCH = 139;
    private static final int HOPE = 140;
    private static final int CRACKED = 141;
    private static final int FROST = 142;
    private static final int FAR = 143;
    private static final int HOUR = 144;
    private static final int MUFFLED = 145;
    private static final int CLEAR = 146;
    private static final int DAYS = 147;
    private static final int DAY = 148;
    private static final int QUANTITIES = DAY - WEIGHT + 1;

    private static final int CANT_STAND = 1;
    private static final int OUT_OF_BOUNDS = 2;
    private static final int TOO_MANY = 3;

    private final Parish now = new Parish();
    private final Parish picture = new Parish();
    private boolean hasPicture;
    private final Past past = new Past();
    private final int[] tape = new int[MOST_BYTES];
    private int tapeLength;
    private final Reader reader = new Reader();
    private final Ear ear = new Ear(now);
    private final Almanac almanac = new Almanac(now, ear);
    private final Thought thought = new Thought(now);
    private final Orders orders = new Orders(now);
    private final int[] comes = new int[MOST_BELLS];

    public UnbornBells() {
    }

    // ---- what is told ----

    public int state(int v) {
        int was = now.state;
        now.state = v;
        past.forget();
        return was;
    }

    public boolean far(int a, int b, int v) {
        if (!isTower(a) || !isTower(b) || a == b || !isWithin(v, 0, 99)) {
            return false;
        }
        now.distances[a * TOWERS + b] = v;
        now.distances[b * TOWERS + a] = v;
        past.forget();
        return true;
    }

    public int bell(int tower, int pitch, int weight, int hope) {
        boolean can = isTower(tower) && isWithin(pitch, 0, TOP_PITCH) && isWithin(weight, 1, 99) && isWithin(hope, 0, 99);
        if (!can || now.count >= MOST_BELLS) {
            return NONE;
        }
        now.bells[now.count].begin(tower, pitch, weight, hope);
        now.count++;
        past.forget();
        return now.count - 1;
    }

    public boolean set(int what, int who, int v) {
        boolean done = what >= 3 ? isSetForBell(what, who, v) : isSetForAll(what, v);
        if (done) {
            past.forget();
        }
        return done;
    }

    private boolean isSetForAll(int what, int v) {
        if (what == 0 && isWithin(v, 0, 12)) {
            now.near = v;
            return true;
        }
        if (what == 1 && isWithin(v, 0, 9)) {
            now.frost = v;
            return true;
        }
        if (what == 2 && isWithin(v, 0, 1000)) {
            now.cold = v;
            return true;
        }
        return false;
    }

    private boolean isSetForBell(int what, int who, int v) {
        if (!now.hasBell(who)) {
            return false;
        }
        Bell it = now.bells[who];
        if (what == 3 && isWithin(v, 0, 99)) {
            it.hope = v;
            return true;
        }
        if (what == 4 && isWithin(v, 0, 1)) {
            it.cracked = v;
            return true;
        }
        if (what == 5 && isWithin(v, 0, TOP_PITCH)) {
            it.pitch = v;
            return true;
        }
        return false;
    }

    // ---- what is done ----

    public boolean melt(int bell) {
        if (!now.hasBell(bell) || now.bells[bell].how == MELTED) {
            return false;
        }
        past.keep(now);
        now.bells[bell].how = MELTED;
        now.book.add(now.day, IN_BOOK_MELTED, bell, NONE);
        return true;
    }

    public boolean muffle(int bell, boolean is) {
        int told = is ? 1 : 0;
        if (!now.hasBell(bell) || now.bells[bell].how == MELTED || now.bells[bell].muffled == told) {
            return false;
        }
        past.keep(now);
        now.bells[bell].muffled = told;
        return true;
    }

    public boolean swap(int a, int b) {
        if (!now.children.has(a) || !now.children.has(b) || a == b) {
            return false;
        }
        past.keep(now);
        int cameA = now.children.at(a, CAME);
        now.children.change(a, CAME, now.children.at(b, CAME));
        now.children.change(b, CAME, cameA);
        now.book.add(now.day, IN_BOOK_SWAPPED, a, b);
        return true;
    }

    public int days(int n) {
        if (!isWithin(n, 1, 60) || now.day + n > LAST_DAY) {
            return NONE;
        }
        int before = now.children.lines;
        for (int i = 0; i < n; i++) {
            past.keep(now);
            almanac.passDay();
        }
        return now.children.lines - before;
    }

    // ---- texts ----

    public int feed(int a, int b, int c, int d, int e) {
        if (tapeLength + 20 > MOST_BYTES) {
            return NONE;
        }
        putNumber(a);
        putNumber(b);
        putNumber(c);
        putNumber(d);
        putNumber(e);
        return tapeLength;
    }

    private void putNumber(int v) {
        for (int shift = 24; shift >= 0 && tapeLength < MOST_BYTES; shift -= 8) {
            tape[tapeLength] = v >>> shift & 255;
            tapeLength++;
        }
    }

    public boolean end(int n) {
        if (n < 0 || n > tapeLength) {
            return false;
        }
        tapeLength = n;
        return true;
    }

    public int text(int k) {
        int length = tapeLength;
        tapeLength = 0;
        if (!isWithin(k, 0, 2)) {
            reader.forgetFault();
            return NONE;
        }
        boolean well = k == 0 ? reader.readHours(tape, length, now.count) : reader.readLaw(tape, length, k == 1);
        if (!well) {
            return NONE;
        }
        if (k == 0) {
            takeHours();
        } else {
            takeLaw(k == 1);
        }
        return reader.lines;
    }

    private void takeHours() {
        System.arraycopy(reader.hourMasks, 0, now.hourMasks, 0, MOST_BELLS);
        now.hourLines = reader.lines;
        past.forget();
    }

    private void takeLaw(boolean ofSound) {
        // A Law never changes once it is made, so an image may share it.
        Law told = new Law(reader.lines, reader.words, reader.starts, reader.whens, reader.codes, reader.numbers);
        if (ofSound) {
            now.sound = told;
        } else {
            now.coming = told;
        }
    }

    public int fault(int what) {
        switch (what) {
            case 0:
                return reader.fault;
            case 1:
                return reader.faultPlace;
            default:
                return NONE;
        }
    }

    // ---- what is asked of bells, children and the book ----

    public int of(int bell, int what) {
        if (!now.hasBell(bell)) {
            return NONE - 1;
        }
        Bell it = now.bells[bell];
        switch (what) {
            case 0:
                return it.tower;
            case 1:
                return it.pitch;
            case 2:
                return it.weight;
            case 3:
                return it.hope;
            case 4:
                return it.cracked;
            case 5:
                return it.muffled;
            case 6:
                return it.how;
            case 7:
                return it.days;
            case 8:
                return now.soundsIn(bell);
            case 9:
                return ear.clearHours(bell, it.tower, now.soundsIn(bell));
            case 10:
                return ear.comingOf(bell, COME);
            case 11:
                return ear.comingOf(bell, SLACK);
            default:
                return NONE - 1;
        }
    }

    public int loud(int bell, int tower, int hour) {
        if (!now.hasBell(bell) || !isTower(tower) || !isHour(hour)) {
            return NONE;
        }
        return ear.loudAt(bell, tower, hour);
    }

    public int astray(int bell, int hour) {
        if (!now.hasBell(bell) || !isHour(hour) || !now.soundsAt(bell, hour)) {
            return NONE;
        }
        return ear.calledTo(bell, hour);
    }

    public int child(int i, int what) {
        return now.children.has(i) && isWithin(what, OWN, BORN) ? now.children.at(i, what) : NONE;
    }

    public int book(int i, int what) {
        return now.book.has(i) && isWithin(what, 0, 3) ? now.book.at(i, what) : NONE - 1;
    }

    // ---- who hears what when ----

    public int heard(int tower, int hour, int n) {
        if (!isTower(tower) || !isHour(hour) || !isWithin(n, 1, MOST_LOUD)) {
            return NONE;
        }
        return ear.heardBells(tower, hour, n);
    }

    public int silence(int what) {
        int longest = 0;
        int first = NONE;
        for (int hour = 0; hour < HOURS_OF_A_DAY; hour++) {
            int length = now.silentFrom(hour);
            if (length > longest) {
                longest = length;
                first = hour;
            }
        }
        return chosen(what, longest, first);
    }

    public int ropes(int what) {
        int most = 0;
        int at = NONE;
        for (int hour = 0; hour < HOURS_OF_A_DAY; hour++) {
            int ringing = now.howManySound(hour);
            if (ringing > most) {
                most = ringing;
                at = hour;
            }
        }
        return chosen(what, at, most);
    }

    public int chorus(int tower, int n, int what) {
        if (!isTower(tower) || !isWithin(n, 1, MOST_LOUD)) {
            return NONE;
        }
        int most = 0;
        int at = NONE;
        for (int hour = 0; hour < HOURS_OF_A_DAY; hour++) {
            int hearing = Integer.bitCount(ear.heardBells(tower, hour, n));
            if (hearing > most) {
                most = hearing;
                at = hour;
            }
        }
        return chosen(what, at, most);
    }

    public int free(int bell) {
        if (!now.isRung(bell)) {
            return NONE;
        }
        return ear.clearHours(bell, now.bells[bell].tower, ALL_HOURS & ~now.soundsIn(bell));
    }

    public int placed(int bell) {
        if (!now.isRung(bell)) {
            return NONE;
        }
        int best = 0;
        int most = NONE;
        for (int tower = 0; tower < TOWERS; tower++) {
            int clear = Integer.bitCount(ear.clearHours(bell, tower, now.soundsIn(bell)));
            if (clear > most) {
                most = clear;
                best = tower;
            }
        }
        return best;
    }

    public int quarrels(int what) {
        int couples = 0;
        int firstA = NONE;
        int firstB = NONE;
        for (int a = 0; a < now.count; a++) {
            for (int b = a + 1; b < now.count; b++) {
                if (ear.doQuarrel(a, b)) {
                    if (couples == 0) {
                        firstA = a;
                        firstB = b;
                    }
                    couples++;
                }
            }
        }
        return what == 2 ? firstB : chosen(what, couples, firstA);
    }

    // ---- who comes when ----

    public int likeliest() {
        int best = NONE;
        int greatest = NONE;
        for (int bell = 0; bell < now.count; bell++) {
            if (now.soundsIn(bell) != 0) {
                int come = ear.comingOf(bell, COME);
                if (come > greatest) {
                    greatest = come;
                    best = bell;
                }
            }
        }
        return best;
    }

    public int stop(int bell, int price) {
        if (!now.hasBell(bell) || !isWithin(price, 0, 99)) {
            return NONE;
        }
        int come = ear.comingOf(bell, COME);
        int slack = ear.comingOf(bell, SLACK);
        for (int k = 0; k <= 99; k++) {
            int hope = Math.max(0, now.bells[bell].hope - k * slack);
            if (hope * come / 1000 < price) {
                return k;
            }
        }
        return NONE;
    }

    public int late(int bell, int n) {
        if (!now.hasBell(bell) || !isWithin(n, 0, 99)) {
            return NONE;
        }
        int come = ear.comingOf(bell, COME);
        int chance = MILLION;
        for (int i = 0; i < n; i++) {
            chance = chance * (1000 - come) / 1000;
        }
        return chance;
    }

    public int noneYet(int n) {
        if (!isWithin(n, 0, 99)) {
            return NONE;
        }
        for (int bell = 0; bell < now.count; bell++) {
            comes[bell] = now.soundsIn(bell) == 0 ? 0 : ear.comingOf(bell, COME);
        }
        int chance = MILLION;
        for (int i = 0; i < n; i++) {
            for (int bell = 0; bell < now.count; bell++) {
                chance = chance * (1000 - comes[bell]) / 1000;
            }
        }
        return chance;
    }

    public int hopes(int bell) {
        if (!now.hasBell(bell)) {
            return NONE;
        }
        int hope = now.bells[bell].hope;
        if (hope == 0) {
            return 0;
        }
        int slack = ear.comingOf(bell, SLACK);
        return slack <= 0 ? NONE : (hope + slack - 1) / slack;
    }

    // ---- which bells ----

    public int rows(int m, int what) {
        if (!isWithin(m, 1, 10) || what != 0 && !now.hasBell(what - 10)) {
            return NONE;
        }
        int fewest = orders.seatAll();
        if (fewest > m) {
            return NONE;
        }
        return what == 0 ? fewest : orders.hourOf(what - 10);
    }

    public int melts(int weight, int what) {
        if (!isWithin(weight, 1, 999)) {
            return NONE;
        }
        int least = thought.leastHarm(weight);
        return least == NONE ? NONE : chosen(what, thought.hopeOf(least), least);
    }

    public int siblings(int step, int what) {
        if (!isWithin(step, 1, 24)) {
            return NONE;
        }
        int most = 0;
        int lowest = NONE;
        for (int pitch = 0; pitch <= TOP_PITCH; pitch++) {
            int length = thought.rowFrom(pitch, step);
            if (length > most) {
                most = length;
                lowest = pitch;
            }
        }
        return chosen(what, most, lowest);
    }

    public int raised(int bells) {
        if (bells == 0 || !now.isSetOfBells(bells)) {
            return NONE;
        }
        for (int by = TOP_PITCH; by >= 0; by--) {
            if (thought.canRaise(bells, by)) {
                return by;
            }
        }
        return NONE;
    }

    public int octaves(int bell) {
        if (!now.hasBell(bell)) {
            return NONE;
        }
        int found = 0;
        for (int other = 0; other < now.count; other++) {
            if (other != bell && now.bells[other].how != MELTED && now.areOctaves(bell, other)) {
                found |= 1 << other;
            }
        }
        return found;
    }

    public int peals(int bells, int what) {
        if (!now.isSetOfBells(bells) || Integer.bitCount(bells) > Orders.MOST_IN_PEAL) {
            return NONE;
        }
        if (what == 0) {
            return orders.countPeals(bells);
        }
        int place = what - 10;
        if (what < 10 || place >= Integer.bitCount(bells) || orders.countPeals(bells) == 0) {
            return NONE;
        }
        return orders.inFirstPeal(place);
    }

    // ---- which child ----

    public int right(int what) {
        switch (what) {
            case 0:
                return thought.wrongNow();
            case 1:
                return thought.swapsToRight();
            case 2:
                return thought.rightThen();
            default:
                return NONE;
        }
    }

    public int turn(int child, int hour, int tower) {
        if (child == NONE) {
            now.turns.cut(0);
            past.forget();
            return 0;
        }
        if (!now.children.has(child) || !isHour(hour) || !isTower(tower) || now.turns.isFull()) {
            return NONE;
        }
        now.turns.add(child, hour, tower, NONE);
        past.forget();
        return now.turns.lines;
    }

    public int fits(int child) {
        return now.children.has(child) ? thought.fitting(child) : NONE;
    }

    public int ask(int child) {
        if (!now.children.has(child)) {
            return NONE;
        }
        int fitting = thought.fitting(child);
        if (Integer.bitCount(fitting) < 2) {
            return NONE;
        }
        int best = NONE;
        int least = MOST_BELLS + 1;
        for (int hour = 0; hour < HOURS_OF_A_DAY; hour++) {
            int having = Integer.bitCount(fitting & now.bellsWithLineAt(hour));
            int greater = Math.max(having, Integer.bitCount(fitting) - having);
            if (greater < least) {
                least = greater;
                best = hour;
            }
        }
        return best;
    }

    public int eldest(int bell, int what) {
        if (!now.hasBell(bell) || what != OWN && what != CAME) {
            return NONE;
        }
        for (int child = 0; child < now.children.lines; child++) {
            if (now.children.at(child, what) == bell) {
                return child;
            }
        }
        return NONE;
    }

    // ---- two parishes ----

    public int louder(int x, int y, int c, int d, int n, int what) {
        boolean can = isWithin(x, 0, 999) && isWithin(y, 0, 999) && isWithin(c, 0, 9) && isWithin(d, 0, 999);
        if (!can || !isWithin(what, 0, 2) || what != 2 && !isWithin(n, 0, 60)) {
            return NONE;
        }
        int most = what == 2 ? 60 : n;
        int ofX = x;
        int ofY = y;
        for (int day = 1; day <= most; day++) {
            int nextX = Math.min(999, d + c * ofY / 4);
            int nextY = Math.min(999, d + c * ofX / 4);
            if (what == 2 && nextX == ofX && nextY == ofY) {
                return day;
            }
            ofX = nextX;
            ofY = nextY;
        }
        return what == 2 ? NONE : chosen(what, ofX, ofY);
    }

    // ---- undone, kept, looked at ----

    public boolean undo() {
        return past.giveBack(now);
    }

    public boolean image(boolean taken) {
        if (taken) {
            picture.copyFrom(now);
            hasPicture = true;
            return true;
        }
        if (!hasPicture) {
            return false;
        }
        now.copyFrom(picture);
        past.forget();
        return true;
    }

    public int look(int what) {
        if (isWithin(what, 20, 19 + TOWERS * TOWERS)) {
            return now.distances[what - 20];
        }
        switch (what) {
            case 0:
                return now.count;
            case 1:
                return now.children.lines;
            case 2:
                return now.day;
            case 3:
                return now.near;
            case 4:
                return now.frost;
            case 5:
                return now.cold;
            case 6:
                return now.book.lines;
            case 7:
                return now.state;
            case 8:
                return now.hourLines;
            case 9:
                return now.sound.lines;
            case 10:
                return now.coming.lines;
            case 11:
                return now.turns.lines;
            case 12:
                return past.count;
            default:
                return NONE;
        }
    }

    private static boolean isWithin(int v, int least, int most) {
        return v >= least && v <= most;
    }

    private static boolean isTower(int v) {
        return isWithin(v, 0, TOWERS - 1);
    }

    private static boolean isHour(int v) {
        return isWithin(v, 0, HOURS_OF_A_DAY - 1);
    }

    private static int chosen(int what, int first, int second) {
        switch (what) {
            case 0:
                return first;
            case 1:
                return second;
            default:
                return NONE;
        }
    }

    private static final class Bell {
        int tower;
        int pitch;
        int weight;
        int hope;
        int cracked;
        int muffled;
        int how;
        int days;

        void begin(int atTower, int ofPitch, int ofWeight, int withHope) {
            tower = atTower;
            pitch = ofPitch;
            weight = ofWeight;
            hope = withHope;
            cracked = 0;
            muffled = 0;
            how = RUNG;
            days = 0;
        }

        void become(Bell other) {
            begin(other.tower, other.pitch, other.weight, other.hope);
            cracked = other.cracked;
            muffled = other.muffled;
            how = other.how;
            days = other.days;
        }
    }

    /** Lines of three or four numbers each, up to a limit. */
    private static final class Table {
        private final int width;
        private final int[] cells;
        int lines;

        Table(int width, int most) {
            this.width = width;
            this.cells = new int[width * most];
        }

        boolean has(int line) {
            return line >= 0 && line < lines;
        }

        boolean isFull() {
            return (lines + 1) * width > cells.length;
        }

        int at(int line, int column) {
            return has(line) && isWithin(column, 0, width - 1) ? cells[line * width + column] : NONE;
        }

        void change(int line, int column, int v) {
            if (has(line) && isWithin(column, 0, width - 1)) {
                cells[line * width + column] = v;
            }
        }

        /** A table of three columns has no place for the last number. */
        void add(int first, int second, int third, int last) {
            if (isFull()) {
                return;
            }
            lines++;
            change(lines - 1, 0, first);
            change(lines - 1, 1, second);
            change(lines - 1, 2, third);
            change(lines - 1, 3, last);
        }

        void cut(int n) {
            if (n >= 0 && n <= lines) {
                lines = n;
            }
        }

        void become(Table other) {
            System.arraycopy(other.cells, 0, cells, 0, Math.min(cells.length, other.cells.length));
            lines = other.lines;
        }
    }

    /** All that is and was told: what an image keeps. */
    private static final class Parish {
        final Bell[] bells = new Bell[MOST_BELLS];
        int count;
        final int[] distances = new int[TOWERS * TOWERS];
        int near = 2;
        int frost;
        int cold;
        int day;
        int state;
        final Table children = new Table(3, MOST_CHILDREN);
        final Table book = new Table(4, MOST_BOOK_LINES);
        final Table turns = new Table(3, MOST_TURNS);
        final int[] hourMasks = new int[MOST_BELLS];
        int hourLines;
        Law sound = Law.withoutLines();
        Law coming = Law.withoutLines();

        Parish() {
            for (int i = 0; i < MOST_BELLS; i++) {
                bells[i] = new Bell();
            }
        }

        void copyFrom(Parish other) {
            for (int i = 0; i < MOST_BELLS; i++) {
                bells[i].become(other.bells[i]);
            }
            count = other.count;
            System.arraycopy(other.distances, 0, distances, 0, TOWERS * TOWERS);
            near = other.near;
            frost = other.frost;
            cold = other.cold;
            day = other.day;
            state = other.state;
            children.become(other.children);
            book.become(other.book);
            turns.become(other.turns);
            System.arraycopy(other.hourMasks, 0, hourMasks, 0, MOST_BELLS);
            hourLines = other.hourLines;
            sound = other.sound;
            coming = other.coming;
        }

        boolean hasBell(int bell) {
            return bell >= 0 && bell < count;
        }

        boolean isRung(int bell) {
            return hasBell(bell) && bells[bell].how == RUNG;
        }

        boolean isSetOfBells(int set) {
            return set >>> count == 0;
        }

        /** The hours in which a bell sounds, as a set. */
        int soundsIn(int bell) {
            return hasBell(bell) && bells[bell].how == RUNG ? hourMasks[bell] : 0;
        }

        boolean soundsAt(int bell, int hour) {
            return (soundsIn(bell) >>> hour & 1) == 1;
        }

        int howManySound(int hour) {
            int ringing = 0;
            for (int bell = 0; bell < count; bell++) {
                if (soundsAt(bell, hour)) {
                    ringing++;
                }
            }
            return ringing;
        }

        /** How many hours from this one on are silent, over midnight, too. */
        int silentFrom(int hour) {
            int length = 0;
            while (length < HOURS_OF_A_DAY && howManySound((hour + length) % HOURS_OF_A_DAY) == 0) {
                length++;
            }
            return length;
        }

        int bellsWithLineAt(int hour) {
            int found = 0;
            for (int bell = 0; bell < count; bell++) {
                found |= (hourMasks[bell] >>> hour & 1) << bell;
            }
            return found;
        }

        int distance(int a, int b) {
            return isTower(a) && isTower(b) ? distances[a * TOWERS + b] : 0;
        }

        boolean areNear(int a, int b) {
            return Math.abs(bells[a].pitch - bells[b].pitch) < near;
        }

        boolean areOctaves(int a, int b) {
            return Math.abs(bells[a].pitch - bells[b].pitch) % 12 == 0;
        }

        int draw(int m) {
            state = 1664525 * state + 1013904223;
            return m <= 0 ? 0 : (state >>> 8) % m;
        }
    }

    /** One of the two laws, as signs that stand behind what they join. It never changes. */
    private static final class Law {
        // Eight open brackets with an "or" and an "and" each, and one comparison within, need fewer.
        private static final int DEEPEST = 40;

        final int lines;
        private final int[] words;
        private final int[] starts;
        private final int[] whens;
        private final int[] codes;
        private final int[] numbers;
        private final int[] stack = new int[DEEPEST];

        /** The code of line i goes from starts[i] to whens[i], that of its condition from there to starts[i + 1]. */
        Law(int lines, int[] words, int[] starts, int[] whens, int[] codes, int[] numbers) {
            this.lines = lines;
            this.words = Arrays.copyOf(words, lines);
            this.starts = Arrays.copyOf(starts, lines + 1);
            this.whens = Arrays.copyOf(whens, lines);
            int used = this.starts[lines];
            this.codes = Arrays.copyOf(codes, used);
            this.numbers = Arrays.copyOf(numbers, used);
        }

        static Law withoutLines() {
            int[] nothing = new int[1];
            return new Law(0, nothing, nothing, nothing, nothing, nothing);
        }

        /** What the first line with that word answers whose condition holds; without one: otherwise. */
        int answer(int word, int[] known, int otherwise) {
            for (int i = 0; i < lines; i++) {
                boolean fits = words[i] == word;
                if (fits && (whens[i] == starts[i + 1] || run(whens[i], starts[i + 1], known) != 0)) {
                    return run(starts[i], whens[i], known);
                }
            }
            return otherwise;
        }

        private int run(int from, int to, int[] known) {
            int top = 0;
            for (int i = from; i < to && top < DEEPEST; i++) {
                int code = codes[i];
                if (code == NUMBER || code >= WEIGHT) {
                    stack[top] = code == NUMBER ? numbers[i] : known[code - WEIGHT];
                    top++;
                } else if (code == NOT && top >= 1) {
                    stack[top - 1] = 1 - stack[top - 1];
                } else if (code == '/' && top >= 1 && numbers[i] != 0) {
                    stack[top - 1] /= numbers[i];
                } else if (top >= 2) {
                    top--;
                    int a = stack[top - 1];
                    int b = stack[top];
                    switch (code) {
                        case '+':
                            stack[top - 1] = a + b;
                            break;
                        case '-':
                            stack[top - 1] = a - b;
                            break;
                        case '*':
                            stack[top - 1] = a * b;
                            break;
                        case '<':
                            stack[top - 1] = a < b ? 1 : 0;
                            break;
                        case '=':
                            stack[top - 1] = a == b ? 1 : 0;
                            break;
                        case '>':
                            stack[top - 1] = a > b ? 1 : 0;
                            break;
                        case AND:
                            stack[top - 1] = a & b;
                            break;
                        default:
                            stack[top - 1] = a | b;
                            break;
                    }
                }
            }
            return stack[0];
        }
    }

    /** Tells a tape's bytes apart into tokens. */
    private static final class Tokens {
        private static final String WORDS =
            "ring at for loud come slack when or and not weight pitch hope cracked frost far hour muffled clear days day ";
        private static final String SIGNS = ";+-*/()<=>";

        final int[] kinds = new int[MOST_BYTES + 1];
        final int[] places = new int[MOST_BYTES + 1];
        final int[] values = new int[MOST_BYTES + 1];

        void read(int[] tape, int length) {
            int count = 0;
            for (int at = 0; at < length; at++) {
                boolean isBlank = tape[at] == ' ' || tape[at] == '\n';
                if (!isBlank && !goesOn(tape, at)) {
                    int behind = behindToken(tape, at, length);
                    places[count] = at;
                    kinds[count] = kindOf(tape, at, behind);
                    values[count] = kinds[count] == NUMBER ? numberOf(tape, at, behind) : 0;
                    count++;
                }
            }
            kinds[count] = END_OF_TEXT;
            places[count] = length;
            values[count] = 0;
        }

        /** Whether a letter or a digit belongs to the token ahead of it. */
        private static boolean goesOn(int[] tape, int at) {
            if (at == 0) {
                return false;
            }
            boolean inWord = isLetter(tape[at - 1]) && isLetter(tape[at]);
            return inWord || isDigit(tape[at - 1]) && isDigit(tape[at]);
        }

        private static int behindToken(int[] tape, int from, int length) {
            int behind = from + 1;
            while (behind < length && goesOn(tape, behind)) {
                behind++;
            }
            return behind;
        }

        private static int kindOf(int[] tape, int from, int behind) {
            int first = tape[from];
            if (isLetter(first)) {
                return wordOf(tape, from, behind);
            }
            if (isDigit(first)) {
                return behind - from <= 4 ? NUMBER : NO_TOKEN;
            }
            return SIGNS.indexOf((char) first) >= 0 ? first : NO_TOKEN;
        }

        private static int wordOf(int[] tape, int from, int behind) {
            int word = FIRST_WORD;
            int at = from;
            boolean same = true;
            for (int i = 0; i < WORDS.length(); i++) {
                char sign = WORDS.charAt(i);
                if (sign != ' ') {
                    same = same && at < behind && tape[at] == sign;
                    at++;
                } else if (same && at == behind) {
                    return word;
                } else {
                    word++;
                    at = from;
                    same = true;
                }
            }
            return NO_TOKEN;
        }

        private static int numberOf(int[] tape, int from, int behind) {
            int number = 0;
            for (int at = from; at < behind; at++) {
                number = number * 10 + tape[at] - '0';
            }
            return number;
        }

        private static boolean isLetter(int sign) {
            return sign >= 'a' && sign <= 'z' || sign >= 'A' && sign <= 'Z';
        }

        private static boolean isDigit(int sign) {
            return sign >= '0' && sign <= '9';
        }
    }

    /** Reads a tape as HOURS or as a law, up to the first fault. */
    private static final class Reader {
        private static final int MOST_HOUR_LINES = 20;
        private static final int MOST_LAW_LINES = 16;
        private static final int MOST_OPEN = 8;

        private final Tokens tokens = new Tokens();
        private int next;
        private int kind;
        private int value;
        private boolean ofSound;
        private int used;
        int fault;
        int faultPlace = NONE;
        int lines;
        final int[] hourMasks = new int[MOST_BELLS];
        final int[] words = new int[MOST_LAW_LINES];
        final int[] starts = new int[MOST_LAW_LINES + 1];
        final int[] whens = new int[MOST_LAW_LINES];
        final int[] codes = new int[MOST_BYTES];
        final int[] numbers = new int[MOST_BYTES];

        void forgetFault() {
            fault = 0;
            faultPlace = NONE;
        }

        boolean readHours(int[] tape, int length, int bells) {
            begin(tape, length);
            Arrays.fill(hourMasks, 0);
            boolean well = true;
            for (int i = 0; i <= MOST_HOUR_LINES && well && kind != END_OF_TEXT; i++) {
                well = readHourLine(bells);
            }
            return well;
        }

        boolean readLaw(int[] tape, int length, boolean isOfSound) {
            begin(tape, length);
            ofSound = isOfSound;
            boolean well = true;
            for (int i = 0; i <= MOST_LAW_LINES && well && kind != END_OF_TEXT; i++) {
                well = readLawLine();
            }
            return well;
        }

        private void begin(int[] tape, int length) {
            tokens.read(tape, length);
            forgetFault();
            lines = 0;
            used = 0;
            starts[0] = 0;
            next = NONE;
            step();
        }

        private void step() {
            if (next < MOST_BYTES) {
                next++;
            }
            kind = tokens.kinds[next];
            value = tokens.values[next];
        }

        private boolean refuse(int what) {
            fault = what;
            faultPlace = tokens.places[next];
            return false;
        }

        private boolean takes(int wanted) {
            if (kind != wanted) {
                return refuse(CANT_STAND);
            }
            step();
            return true;
        }

        private boolean takesNumber(int least, int most) {
            if (kind != NUMBER) {
                return refuse(CANT_STAND);
            }
            if (!isWithin(value, least, most)) {
                return refuse(OUT_OF_BOUNDS);
            }
            step();
            return true;
        }

        private boolean readHourLine(int bells) {
            if (kind == RING && lines >= MOST_HOUR_LINES) {
                return refuse(TOO_MANY);
            }
            if (!takes(RING)) {
                return false;
            }
            int bell = value;
            if (!takesNumber(0, bells - 1) || !takes(AT)) {
                return false;
            }
            int hour = value;
            if (!takesNumber(0, HOURS_OF_A_DAY - 1) || !takes(FOR)) {
                return false;
            }
            int n = value;
            if (!takesNumber(1, HOURS_OF_A_DAY) || !takes(';')) {
                return false;
            }
            for (int i = 0; i < n && isWithin(bell, 0, MOST_BELLS - 1); i++) {
                hourMasks[bell] |= 1 << (hour + i) % HOURS_OF_A_DAY;
            }
            lines++;
            return true;
        }

        private boolean readLawLine() {
            boolean begins = ofSound ? kind == LOUD : kind == COME || kind == SLACK;
            if (!begins) {
                return refuse(CANT_STAND);
            }
            if (lines >= MOST_LAW_LINES) {
                return refuse(TOO_MANY);
            }
            words[lines] = kind;
            step();
            if (!readSum()) {
                return false;
            }
            whens[lines] = used;
            if (kind == WHEN) {
                step();
                if (!readChoice(0)) {
                    return false;
                }
            }
            if (!takes(';')) {
                return false;
            }
            lines++;
            starts[lines] = used;
            return true;
        }

        private void emit(int code, int number) {
            if (used < MOST_BYTES) {
                codes[used] = code;
                numbers[used] = number;
                used++;
            }
        }

        /** Both "or" and "and" at once: an "or" joins what lies ahead only when its right side is whole. */
        private boolean readChoice(int open) {
            int waiting = 0;
            boolean well = readClaim(open);
            for (int i = 0; i < MOST_BYTES && well && (kind == AND || kind == OR); i++) {
                int word = kind;
                step();
                if (word == OR) {
                    emitWaiting(waiting);
                    waiting = OR;
                }
                well = readClaim(open);
                if (word == AND) {
                    emit(AND, 0);
                }
            }
            emitWaiting(waiting);
            return well;
        }

        private boolean readClaim(int openAhead) {
            int open = openAhead;
            while (kind == NOT && open < MOST_OPEN) {
                open++;
                step();
            }
            if ((kind == NOT || kind == '(') && open >= MOST_OPEN) {
                return refuse(TOO_MANY);
            }
            boolean well = kind == '(' ? readBracket(open + 1) : readComparison();
            for (int i = openAhead; i < open; i++) {
                emit(NOT, 0);
            }
            return well;
        }

        private boolean readBracket(int open) {
            step();
            return readChoice(open) && takes(')');
        }

        private boolean readComparison() {
            if (!readSum()) {
                return false;
            }
            int sign = kind;
            if (sign != '<' && sign != '=' && sign != '>') {
                return refuse(CANT_STAND);
            }
            step();
            if (!readSum()) {
                return false;
            }
            emit(sign, 0);
            return true;
        }

        /** Sums and products at once: a + or - joins what lies ahead only when its right side is whole. */
        private boolean readSum() {
            int waiting = 0;
            boolean well = readUnit();
            for (int i = 0; i < MOST_BYTES && well && isSignOfSums(kind); i++) {
                int sign = kind;
                step();
                if (sign == '/') {
                    int part = value;
                    well = takesNumber(1, 9999);
                    emit('/', part);
                } else if (sign == '*') {
                    well = readUnit();
                    emit('*', 0);
                } else {
                    emitWaiting(waiting);
                    waiting = sign;
                    well = readUnit();
                }
            }
            emitWaiting(waiting);
            return well;
        }

        private static boolean isSignOfSums(int sign) {
            return sign == '+' || sign == '-' || sign == '*' || sign == '/';
        }

        private void emitWaiting(int sign) {
            if (sign != 0) {
                emit(sign, 0);
            }
        }

        private boolean readUnit() {
            boolean isOfBoth = isWithin(kind, WEIGHT, FROST);
            boolean isOfOne = ofSound ? isWithin(kind, FAR, MUFFLED) : isWithin(kind, CLEAR, DAY);
            if (kind != NUMBER && !isOfBoth && !isOfOne) {
                return refuse(CANT_STAND);
            }
            emit(kind, value);
            step();
            return true;
        }
    }

    /** How loud, how clear and how likely bells are, by the laws. */
    private static final class Ear {
        private final Parish parish;
        private final int[] known = new int[QUANTITIES];

        Ear(Parish parish) {
            this.parish = parish;
        }

        private void learn(int bell) {
            Bell it = parish.bells[bell];
            known[WEIGHT - WEIGHT] = it.weight;
            known[PITCH - WEIGHT] = it.pitch;
            known[HOPE - WEIGHT] = it.hope;
            known[CRACKED - WEIGHT] = it.cracked;
            known[FROST - WEIGHT] = parish.frost;
            known[MUFFLED - WEIGHT] = it.muffled;
            known[DAYS - WEIGHT] = it.days;
            known[DAY - WEIGHT] = parish.day;
        }

        private int loudFrom(int bell, int distance, int hour) {
            learn(bell);
            known[FAR - WEIGHT] = distance;
            known[HOUR - WEIGHT] = hour;
            int loud = parish.sound.answer(LOUD, known, parish.bells[bell].weight - distance);
            return Math.max(0, Math.min(MOST_LOUD, loud));
        }

        int loudAt(int bell, int tower, int hour) {
            return loudFrom(bell, parish.distance(parish.bells[bell].tower, tower), hour);
        }

        /** Of some hours those in which a bell would be clear at a tower if it stood and sounded there. */
        int clearHours(int bell, int tower, int among) {
            int clear = among;
            for (int other = 0; other < parish.count; other++) {
                if (other != bell && parish.areNear(bell, other)) {
                    clear &= ~drowningHours(other, bell, tower, clear & parish.soundsIn(other));
                }
            }
            return clear;
        }

        /** Of some hours those in which one bell drowns another that stands at a tower. */
        private int drowningHours(int one, int other, int tower, int among) {
            int distance = parish.distance(parish.bells[one].tower, tower);
            int drowning = 0;
            for (int hour = 0; hour < HOURS_OF_A_DAY; hour++) {
                boolean isAsked = (among >>> hour & 1) == 1;
                if (isAsked && 2 * loudFrom(one, distance, hour) >= loudFrom(other, 0, hour)) {
                    drowning |= 1 << hour;
                }
            }
            return drowning;
        }

        boolean doQuarrel(int a, int b) {
            if (!parish.areNear(a, b)) {
                return false;
            }
            int both = parish.soundsIn(a) & parish.soundsIn(b);
            int overB = drowningHours(a, b, parish.bells[b].tower, both);
            return drowningHours(b, a, parish.bells[a].tower, overB) != 0;
        }

        int heardBells(int tower, int hour, int n) {
            int found = 0;
            for (int bell = 0; bell < parish.count; bell++) {
                if (parish.soundsAt(bell, hour) && loudAt(bell, tower, hour) >= n) {
                    found |= 1 << bell;
                }
            }
            return found;
        }

        int calledTo(int bell, int hour) {
            int tower = parish.bells[bell].tower;
            int best = bell;
            int loudest = loudFrom(bell, 0, hour);
            for (int other = 0; other < parish.count; other++) {
                if (parish.soundsAt(other, hour) && parish.areOctaves(bell, other)) {
                    int loud = loudAt(other, tower, hour);
                    if (loud > loudest) {
                        loudest = loud;
                        best = other;
                    }
                }
            }
            return best;
        }

        /** COME or SLACK, by its word. */
        int comingOf(int bell, int word) {
            int clear = Integer.bitCount(clearHours(bell, parish.bells[bell].tower, parish.soundsIn(bell)));
            learn(bell);
            known[CLEAR - WEIGHT] = clear;
            boolean isCome = word == COME;
            int told = parish.coming.answer(word, known, isCome ? 10 * clear : 0);
            return Math.max(0, Math.min(isCome ? 1000 : 99, told));
        }
    }

    /** Lets a day go by. */
    private static final class Almanac {
        private final Parish parish;
        private final Ear ear;

        Almanac(Parish parish, Ear ear) {
            this.parish = parish;
            this.ear = ear;
        }

        void passDay() {
            for (int bell = 0; bell < parish.count; bell++) {
                if (parish.soundsIn(bell) != 0) {
                    int come = ear.comingOf(bell, COME);
                    int slack = ear.comingOf(bell, SLACK);
                    Bell it = parish.bells[bell];
                    it.days = Math.min(LAST_DAY, it.days + 1);
                    it.hope = Math.max(0, it.hope - slack);
                    if (come > 0 && parish.draw(1000) < come) {
                        bringChildren(bell);
                    }
                }
            }
            if (parish.cold > 0) {
                int step = parish.draw(1000) < parish.cold ? 1 : NONE;
                parish.frost = Math.max(0, Math.min(9, parish.frost + step));
            }
            parish.day++;
        }

        private void bringChildren(int bell) {
            int hours = parish.soundsIn(bell);
            int clear = ear.clearHours(bell, parish.bells[bell].tower, hours);
            bringChild(bell, ear.calledTo(bell, firstHour(clear != 0 ? clear : hours)));
            if (parish.bells[bell].cracked == 1) {
                bringChild(bell, bell);
            }
            parish.bells[bell].how = HANGS;
        }

        private static int firstHour(int hours) {
            int hour = 0;
            while (hour < HOURS_OF_A_DAY - 1 && (hours >>> hour & 1) == 0) {
                hour++;
            }
            return hour;
        }

        private void bringChild(int own, int came) {
            if (!parish.children.isFull()) {
                parish.children.add(own, came, parish.day, NONE);
                parish.book.add(parish.day, IN_BOOK_CHILD, own, came);
            }
        }
    }

    /** The latest states that can be undone, each a row of what a day, a melting, a muffling or a swap can change. */
    private static final class Past {
        private static final int KEPT = 6;
        private static final int OF_A_BELL = 4;
        private static final int COUNTS = MOST_BELLS * OF_A_BELL + MOST_CHILDREN;
        private static final int WIDTH = COUNTS + 5;

        private final int[][] rows = new int[KEPT][WIDTH];
        private int latest;
        int count;

        void forget() {
            count = 0;
        }

        void keep(Parish parish) {
            latest = (latest + 1) % KEPT;
            count = Math.min(KEPT, count + 1);
            int[] row = rows[latest];
            for (int i = 0; i < MOST_BELLS; i++) {
                Bell it = parish.bells[i];
                row[i * OF_A_BELL] = it.hope;
                row[i * OF_A_BELL + 1] = it.muffled;
                row[i * OF_A_BELL + 2] = it.how;
                row[i * OF_A_BELL + 3] = it.days;
            }
            for (int i = 0; i < MOST_CHILDREN; i++) {
                row[MOST_BELLS * OF_A_BELL + i] = parish.children.at(i, CAME);
            }
            row[COUNTS] = parish.children.lines;
            row[COUNTS + 1] = parish.book.lines;
            row[COUNTS + 2] = parish.day;
            row[COUNTS + 3] = parish.frost;
            row[COUNTS + 4] = parish.state;
        }

        boolean giveBack(Parish parish) {
            if (count == 0) {
                return false;
            }
            int[] row = rows[latest];
            for (int i = 0; i < MOST_BELLS; i++) {
                Bell it = parish.bells[i];
                it.hope = row[i * OF_A_BELL];
                it.muffled = row[i * OF_A_BELL + 1];
                it.how = row[i * OF_A_BELL + 2];
                it.days = row[i * OF_A_BELL + 3];
            }
            // Lines are only ever added, so those ahead of the old end are as they were but for CAME.
            parish.children.cut(row[COUNTS]);
            parish.book.cut(row[COUNTS + 1]);
            for (int i = 0; i < MOST_CHILDREN; i++) {
                parish.children.change(i, CAME, row[MOST_BELLS * OF_A_BELL + i]);
            }
            parish.day = row[COUNTS + 2];
            parish.frost = row[COUNTS + 3];
            parish.state = row[COUNTS + 4];
            latest = (latest + KEPT - 1) % KEPT;
            count--;
            return true;
        }
    }

    /** Sets of bells and of children, in thought alone. */
    private static final class Thought {
        private final Parish parish;
        private final int[] came = new int[MOST_CHILDREN];

        Thought(Parish parish) {
            this.parish = parish;
        }

        /** The set of bells that are not melted whose weights are enough, with the least harm; NONE without one. */
        int leastHarm(int weight) {
            int best = NONE;
            for (int set = 0; set < 1 << parish.count; set++) {
                if (canMelt(set) && weightOf(set) >= weight && (best == NONE || isLessHarm(set, best))) {
                    best = set;
                }
            }
            return best;
        }

        private boolean isLessHarm(int set, int than) {
            int hope = hopeOf(set);
            int thanHope = hopeOf(than);
            return hope < thanHope || hope == thanHope && Integer.bitCount(set) < Integer.bitCount(than);
        }

        private boolean canMelt(int set) {
            for (int bell = 0; bell < parish.count; bell++) {
                if ((set >>> bell & 1) == 1 && parish.bells[bell].how == MELTED) {
                    return false;
                }
            }
            return true;
        }

        private int weightOf(int set) {
            int sum = 0;
            for (int bell = 0; bell < parish.count; bell++) {
                sum += (set >>> bell & 1) * parish.bells[bell].weight;
            }
            return sum;
        }

        int hopeOf(int set) {
            int sum = 0;
            for (int bell = 0; bell < parish.count; bell++) {
                sum += (set >>> bell & 1) * parish.bells[bell].hope;
            }
            return sum;
        }

        /** How many siblings stand in a row from this pitch upwards. */
        int rowFrom(int pitch, int step) {
            int length = 0;
            while (length <= TOP_PITCH && isPitchThere(pitch + length * step)) {
                length++;
            }
            return length;
        }

        private boolean isPitchThere(int pitch) {
            for (int bell = 0; bell < parish.count; bell++) {
                if (parish.bells[bell].how != MELTED && parish.bells[bell].pitch == pitch) {
                    return true;
                }
            }
            return false;
        }

        boolean canRaise(int set, int by) {
            for (int bell = 0; bell < parish.count; bell++) {
                if ((set >>> bell & 1) == 1 && !isFreeAt(set, parish.bells[bell].pitch + by)) {
                    return false;
                }
            }
            return true;
        }

        private boolean isFreeAt(int set, int pitch) {
            if (pitch > TOP_PITCH) {
                return false;
            }
            for (int other = 0; other < parish.count; other++) {
                boolean counts = (set >>> other & 1) == 0 && parish.bells[other].how != MELTED;
                if (counts && Math.abs(parish.bells[other].pitch - pitch) < parish.near) {
                    return false;
                }
            }
            return true;
        }

        int fitting(int child) {
            int found = 0;
            for (int bell = 0; bell < parish.count; bell++) {
                if (parish.bells[bell].how != MELTED && doesFit(bell, child)) {
                    found |= 1 << bell;
                }
            }
            return found;
        }

        private boolean doesFit(int bell, int child) {
            for (int i = 0; i < parish.turns.lines; i++) {
                if (parish.turns.at(i, TURN_CHILD) == child) {
                    boolean sounds = (parish.hourMasks[bell] >>> parish.turns.at(i, TURN_HOUR) & 1) == 1;
                    if (!sounds || parish.bells[bell].tower != parish.turns.at(i, TURN_TOWER)) {
                        return false;
                    }
                }
            }
            return true;
        }

        int wrongNow() {
            rememberCame();
            return wrongChildren();
        }

        int rightThen() {
            swapsToRight();
            return parish.children.lines - Integer.bitCount(wrongChildren());
        }

        int swapsToRight() {
            rememberCame();
            int swaps = 0;
            // A swap gives the wrong ones no CAME that none of them had: it never opens a way for a lesser child.
            for (int child = 0; child < parish.children.lines; child++) {
                int partner = isWrong(child) ? partnerOf(child) : NONE;
                if (partner != NONE) {
                    int own = came[partner];
                    came[partner] = came[child];
                    came[child] = own;
                    swaps++;
                }
            }
            return swaps;
        }

        private void rememberCame() {
            for (int i = 0; i < parish.children.lines && i < MOST_CHILDREN; i++) {
                came[i] = parish.children.at(i, CAME);
            }
        }

        private boolean isWrong(int child) {
            return isWithin(child, 0, MOST_CHILDREN - 1) && came[child] != parish.children.at(child, OWN);
        }

        private int wrongChildren() {
            int wrong = 0;
            for (int i = 0; i < parish.children.lines; i++) {
                if (isWrong(i)) {
                    wrong |= 1 << i;
                }
            }
            return wrong;
        }

        private int partnerOf(int child) {
            int least = NONE;
            for (int other = 0; other < parish.children.lines; other++) {
                if (isWrong(other) && came[other] == parish.children.at(child, OWN)) {
                    if (parish.children.at(other, OWN) == came[child]) {
                        return other;
                    }
                    if (least == NONE) {
                        least = other;
                    }
                }
            }
            return least;
        }
    }

    /** Bells by hours of a day without neighbours, and by orders without neighbours. */
    private static final class Orders {
        static final int MOST_IN_PEAL = 8;

        private final Parish parish;
        private final int[] seats = new int[MOST_BELLS];
        private final int[] members = new int[MOST_IN_PEAL];
        private int size;
        // Of a set of members that are still to come and the member that rang last: in how many orders they can.
        private final int[] ways = new int[(1 << MOST_IN_PEAL) * MOST_IN_PEAL];

        Orders(Parish parish) {
            this.parish = parish;
        }

        /** Gives each rung bell its hour and tells how many hours that takes. */
        int seatAll() {
            int most = 0;
            while (!seatFrom(0, 0, most, parish, seats) && most < MOST_BELLS) {
                most++;
            }
            return most;
        }

        int hourOf(int bell) {
            return isWithin(bell, 0, MOST_BELLS - 1) ? seats[bell] : NONE;
        }

        /** Seats a bell and all after it. An hour beyond the first unused one is only another name for that one. */
        private static boolean seatFrom(int bell, int used, int most, Parish parish, int[] seats) {
            if (bell >= parish.count || bell >= seats.length) {
                return true;
            }
            seats[bell] = NONE;
            if (!parish.isRung(bell)) {
                return seatFrom(bell + 1, used, most, parish, seats);
            }
            for (int hour = 0; hour <= used && hour < most; hour++) {
                if (canSit(bell, hour, parish, seats)) {
                    seats[bell] = hour;
                    if (seatFrom(bell + 1, Math.max(used, hour + 1), most, parish, seats)) {
                        return true;
                    }
                }
            }
            return false;
        }

        private static boolean canSit(int bell, int hour, Parish parish, int[] seats) {
            for (int other = 0; other < bell; other++) {
                if (seats[other] == hour && parish.areNear(bell, other)) {
                    return false;
                }
            }
            return true;
        }

        int countPeals(int set) {
            gather(set);
            int all = (1 << size) - 1;
            for (int rest = 0; rest <= all; rest++) {
                for (int last = 0; last < size; last++) {
                    ways[rest * MOST_IN_PEAL + last] = waysAfter(rest, last);
                }
            }
            return waysAfter(all, NONE);
        }

        private void gather(int set) {
            size = 0;
            for (int bell = 0; bell < parish.count; bell++) {
                if ((set >>> bell & 1) == 1 && size < MOST_IN_PEAL) {
                    members[size] = bell;
                    size++;
                }
            }
        }

        private int waysAfter(int rest, int last) {
            if (rest == 0) {
                return 1;
            }
            int sum = 0;
            for (int next = 0; next < size; next++) {
                if (canFollow(rest, last, next)) {
                    sum += ways[(rest ^ 1 << next) * MOST_IN_PEAL + next];
                }
            }
            return sum;
        }

        private boolean canFollow(int rest, int last, int next) {
            return (rest >>> next & 1) == 1 && (last == NONE || !parish.areNear(members[last], members[next]));
        }

        /** The bell at that place of the first of the orders that were just counted. */
        int inFirstPeal(int place) {
            int rest = (1 << size) - 1;
            int last = NONE;
            for (int i = 0; i <= place; i++) {
                last = firstAfter(rest, last);
                if (last == NONE) {
                    return NONE;
                }
                rest ^= 1 << last;
            }
            return last == NONE ? NONE : members[last];
        }

        private int firstAfter(int rest, int last) {
            for (int next = 0; next < size; next++) {
                if (canFollow(rest, last, next) && ways[(rest ^ 1 << next) * MOST_IN_PEAL + next] > 0) {
                    return next;
                }
            }
            return NONE;
        }
    }
}
