import java.util.Arrays;

/** Spouts on a cathedral that hear who sits below them and say it in the rain. */
public final class SpoutNews {
    public static final int NONE = -1;

    private static final int NO_SUCH = NONE - 1;
    private static final int WORDS = 16;
    private static final int MOST_SPOUTS = 10;
    private static final int MOST_SITTERS = 8;
    private static final int JARS = 6;
    private static final int MOST_HEARD = 20;
    private static final int MOST_JET = 9;
    private static final int MOST_RAIN = 9;
    private static final int MOST_LEAN = 99;
    private static final int MOST_DRY = 999;
    private static final int LAST_DAY = 9999;
    private static final int MOST_DAYS_AT_ONCE = 60;
    private static final int TAPE_BYTES = 400;
    private static final int MOST_LINES = 16;
    private static final int BOOK_LINES = 150;
    private static final int UNDO_KEPT = 6;

    private static final int SEATS = 12;
    private static final int QUARRELS = 14;
    private static final int ROW = 4;
    private static final int DROUGHT_DAYS = 40;
    private static final int CHAPTERS = 12;
    private static final int STORMS = 6;

    private static final int OPEN = 0;
    private static final int MENDED = 1;
    private static final int LEADED = 2;

    private static final int TO_SEAT = 0;
    private static final int TO_RISE = 1;
    private static final int TO_JAR = 2;
    private static final int TO_MEND = 3;
    private static final int TO_LEAD = 4;
    private static final int TO_OPEN = 5;
    private static final int TO_TELL = 6;
    private static final int TO_EMPTY = 7;

    private static final int WAS_HEARD = 0;
    private static final int WAS_SAID = 1;
    private static final int WAS_LED_ON = 2;

    private static final int LAW = 0;
    private static final int GUTTERS = 1;
    private static final int WEATHER = 2;
    private static final int PLAN = 3;

    private static final int CANT_STAND = 1;
    private static final int BAD_NUMBER = 2;
    private static final int TOO_MANY = 3;

    // The places of the words in these lists are what the readers know them by.
    private static final String LAW_WORDS =
        "hears jet slip when or and not stone side lean mouth rain heard dry word day";
    private static final int HEARS = 0;
    private static final int JET = 1;
    private static final int SLIP = 2;
    private static final int WHEN = 3;
    private static final int OR = 4;
    private static final int AND = 5;
    private static final int NOT = 6;
    private static final int FIRST_FACT = 7;
    private static final int FACTS = 9;
    private static final String GUTTER_WORDS = "spout into";
    private static final String WEATHER_WORDS = "day rain";
    // The deeds stand first, each at its own number.
    private static final String PLAN_WORDS = "seat rise jar mend lead open tell on at";
    private static final int ON = 7;
    private static final int AT = 8;

    private final Cathedral now = new Cathedral();
    private final Cathedral kept = new Cathedral();
    private boolean hasImage;
    private final Past past = new Past();
    private final World inThought = new World(true);
    private final DayRun dayRun = new DayRun();
    private final Thought thought = new Thought();
    private final int[] tape = new int[TAPE_BYTES];
    private int tapeLength;
    private final Tokens tokens = new Tokens();
    private final Texts draft = new Texts();
    private final LawReader lawReader = new LawReader();

    public SpoutNews() {
    }

    public int state(int v) {
        int was = now.world.draws;
        now.world.draws = v;
        past.forget();
        return was;
    }

    public int spout(int stone, int side, int lean) {
        if (stone < 0 || stone > 5 || side < 0 || side > 3 || lean < 0 || lean > MOST_LEAN) {
            return NONE;
        }
        if (now.world.spouts >= MOST_SPOUTS) {
            return NONE;
        }
        past.forget();
        return now.world.addSpout(stone, side, lean);
    }

    public int sitter(int knows) {
        if (!isWordSet(knows) || now.world.sitters >= MOST_SITTERS) {
            return NONE;
        }
        past.forget();
        return now.world.addSitter(knows);
    }

    public boolean set(int what, int who, int v) {
        World w = now.world;
        boolean can = v >= 0;
        switch (what) {
            case 0: can = can && v <= MOST_RAIN; break;
            case 1: can = can && w.isSpout(who) && v <= MOST_LEAN; break;
            case 2: can = can && w.isSpout(who) && v <= MOST_DRY; break;
            case 3: can = w.isSitter(who) && isWordSet(v); break;
            default: can = false;
        }
        if (!can) {
            return false;
        }
        past.forget();
        switch (what) {
            case 0: w.rain = v; break;
            case 1: w.lean[who] = v; break;
            case 2: w.dry[who] = v; break;
            default: w.knows[who] = v;
        }
        return true;
    }

    public boolean act(int what, int who, int v) {
        if (!now.world.canDo(what, who, v)) {
            return false;
        }
        past.keep(now.world);
        now.world.carryOut(what, who, v);
        return true;
    }

    public int days(int n) {
        World w = now.world;
        if (n < 1 || n > MOST_DAYS_AT_ONCE || w.day + n > LAST_DAY) {
            return NONE;
        }
        int before = w.said;
        for (int i = 0; i < n; i++) {
            // What a long row of days would push out again need not be kept at all.
            if (n - i <= UNDO_KEPT) {
                past.keep(w);
            }
            dayRun.pass(w, now.texts, now.book);
        }
        return w.said - before;
    }

    public int feed(int a, int b, int c, int d, int e) {
        if (tapeLength + 20 > TAPE_BYTES) {
            return NONE;
        }
        feedFour(a);
        feedFour(b);
        feedFour(c);
        feedFour(d);
        feedFour(e);
        return tapeLength;
    }

    private void feedFour(int v) {
        for (int shift = 24; shift >= 0 && tapeLength < TAPE_BYTES; shift -= 8) {
            tape[tapeLength] = (v >>> shift) & 255;
            tapeLength++;
        }
    }

    public boolean end(int n) {
        if (n < 0 || n > tapeLength) {
            return false;
        }
        tapeLength = n;
        return true;
    }

    public int text(int k) {
        int length = tapeLength;
        tapeLength = 0;
        switch (k) {
            case LAW: return takeLaw(length);
            case GUTTERS: return takeGutters(length);
            case WEATHER: return takeWeather(length);
            case PLAN: return takePlan(length);
            default:
                tokens.clear();
                return NONE;
        }
    }

    private int takeLaw(int length) {
        tokens.split(tape, length, LAW_WORDS);
        if (!lawReader.readLaw(tokens, draft.law)) {
            return NONE;
        }
        now.texts.law.copyFrom(draft.law);
        return draft.law.lines;
    }

    private int takeGutters(int length) {
        tokens.split(tape, length, GUTTER_WORDS);
        if (!draft.readGutters(tokens, now.world)) {
            return NONE;
        }
        now.texts.copyGutters(draft);
        return draft.gutterLines;
    }

    private int takeWeather(int length) {
        tokens.split(tape, length, WEATHER_WORDS);
        if (!draft.readWeather(tokens)) {
            return NONE;
        }
        now.texts.copyWeather(draft);
        past.forget();
        return draft.weatherLines;
    }

    private int takePlan(int length) {
        tokens.split(tape, length, PLAN_WORDS);
        if (!draft.readPlan(tokens, now.world)) {
            return NONE;
        }
        now.texts.copyPlan(draft);
        past.forget();
        return draft.planLines;
    }

    public int fault(int what) {
        switch (what) {
            case 0: return tokens.faultKind;
            case 1: return tokens.faultPlace;
            default: return NONE;
        }
    }

    public int of(int spout, int what) {
        World w = now.world;
        if (!w.isSpout(spout)) {
            return NO_SUCH;
        }
        if (what >= 20 && what < 40) {
            return what - 20 < w.heardCount[spout] ? w.wordAt(spout, what - 20) : NO_SUCH;
        }
        if (what >= 40 && what < 40 + WORDS) {
            return now.texts.law.tells(SLIP, w, spout, what - 40);
        }
        switch (what) {
            case 0: return w.stone[spout];
            case 1: return w.side[spout];
            case 2: return w.lean[spout];
            case 3: return w.mouth[spout];
            case 4: return w.heardCount[spout];
            case 5: return w.dry[spout];
            case 6: return now.texts.gutterOf(spout);
            case 7: return now.texts.law.tells(HEARS, w, spout, 0);
            case 8: return now.texts.law.tells(JET, w, spout, 0);
            default: return NO_SUCH;
        }
    }

    public int who(int sitter, int what) {
        if (!now.world.isSitter(sitter)) {
            return NO_SUCH;
        }
        switch (what) {
            case 0: return now.world.knows[sitter];
            case 1: return now.world.sitterAt[sitter];
            default: return NO_SUCH;
        }
    }

    public int jar(int jar, int what) {
        if (jar < 0 || jar >= JARS) {
            return NO_SUCH;
        }
        switch (what) {
            case 0: return now.world.jarAt[jar];
            case 1: return now.world.caught[jar];
            default: return NO_SUCH;
        }
    }

    public int weather(int day) {
        return now.texts.rainOn(day);
    }

    public int book(int i, int what) {
        if (i < 0 || i >= now.world.bookLines || i >= BOOK_LINES) {
            return NONE;
        }
        switch (what) {
            case 0: return now.book.day[i];
            case 1: return now.book.what[i];
            case 2: return now.book.which[i];
            case 3: return now.book.word[i];
            default: return NONE;
        }
    }

    public int goes(int n, int what) {
        boolean ofAll = what >= 0 && what <= 2;
        boolean ofJar = what >= 10 && what < 10 + JARS;
        if (n < 1 || n > MOST_DAYS_AT_ONCE || !ofAll && !ofJar) {
            return NONE;
        }
        inThought.copyFrom(now.world);
        for (int i = 0; i < n; i++) {
            dayRun.pass(inThought, now.texts, now.book);
        }
        switch (what) {
            case 0: return inThought.said;
            case 1: return inThought.wrong;
            case 2: return inThought.heardInAll();
            default: return ofJar ? inThought.caught[what - 10] : NONE;
        }
    }

    public int told(int word, int spout) {
        if (!isWord(word) || !now.world.isSpout(spout)) {
            return NONE;
        }
        return thought.tellers(now.world, now.texts, word, spout);
    }

    public int ends(int spout, int what) {
        if (!now.world.isSpout(spout)) {
            return NONE;
        }
        switch (what) {
            case 0: return thought.endOf(now.texts, spout);
            case 1: return thought.guttersToEnd(now.texts, spout);
            default: return NONE;
        }
    }

    public int catches(int what) {
        if (what != 0 && what != 1) {
            return NONE;
        }
        int set = thought.allEnds(now.world, now.texts);
        return what == 0 ? Integer.bitCount(set) : set;
    }

    public int seat(int a, int b) {
        Told t = now.told;
        if (a == NONE) {
            t.seats = 0;
            return 0;
        }
        if (!now.world.isSitter(a) || !now.world.isSpout(b) || t.seats >= SEATS) {
            return NONE;
        }
        t.seatWho[t.seats] = a;
        t.seatBelow[t.seats] = b;
        t.seats++;
        return t.seats;
    }

    public int ways(int what) {
        if (what < 0 || what > 2) {
            return NONE;
        }
        thought.countWays(now.told);
        switch (what) {
            case 0: return thought.wayCount;
            case 1: return thought.sureCouples();
            default: return thought.whomToAsk();
        }
    }

    public int quarrel(int a, int b) {
        Told t = now.told;
        if (a == NONE) {
            t.quarrels = 0;
            return 0;
        }
        if (a < 0 || a >= MOST_SPOUTS || b < 0 || b >= MOST_SPOUTS || a == b || t.quarrels >= QUARRELS) {
            return NONE;
        }
        t.quarrelOne[t.quarrels] = a;
        t.quarrelOther[t.quarrels] = b;
        t.quarrels++;
        return t.quarrels;
    }

    public int parts(int what) {
        if (what != 0 && what != 1) {
            return NONE;
        }
        thought.partGroups(now.told);
        return what == 0 ? thought.onFirstSide : thought.groups;
    }

    public int known(int words, int what) {
        if (!isWordSet(words) || what != 0 && what != 1) {
            return NONE;
        }
        int set = thought.fewestThatKnow(now.world, words);
        return what == 0 && set != NONE ? Integer.bitCount(set) : set;
    }

    public boolean latin(int word, int to) {
        if (!isWord(word) || !isWord(to)) {
            return false;
        }
        now.told.latinOf[word] = to;
        return true;
    }

    public int again(int word) {
        if (word == NONE) {
            return thought.allAgain(now.told);
        }
        return isWord(word) ? thought.stepsAgain(now.told, word) : NONE;
    }

    public boolean mason(int i, boolean stone, int row) {
        if (i < 0 || i >= ROW || !isRow(row)) {
            return false;
        }
        int[] rows = stone ? now.told.stoneRows : now.told.masonRows;
        rows[i * ROW] = row / 1000;
        rows[i * ROW + 1] = row / 100 % 10;
        rows[i * ROW + 2] = row / 10 % 10;
        rows[i * ROW + 3] = row % 10;
        return true;
    }

    public int keeps(int i) {
        if (i < NONE || i >= ROW) {
            return NONE;
        }
        thought.makeOffers(now.told);
        return i == NONE ? thought.offers : thought.stoneOf[i];
    }

    public int surmise(int p, int n, int m) {
        if (p < 0 || p > 1000 || n < 0 || n > 20 || m < 0 || m > 20) {
            return NONE;
        }
        return Thought.likely(p, n, m);
    }

    public int drought(int rain) {
        Told t = now.told;
        if (rain == NONE) {
            t.droughtDays = 0;
            return 0;
        }
        if (rain < 0 || rain > MOST_RAIN || t.droughtDays >= DROUGHT_DAYS) {
            return NONE;
        }
        t.droughtRain[t.droughtDays] = rain;
        t.droughtDays++;
        return t.droughtDays;
    }

    public int longest(int what) {
        switch (what) {
            case 0: return now.told.longestRun();
            case 1: return now.told.longestRunBegins();
            default: return NONE;
        }
    }

    public int leans(int c) {
        if (c < 1 || c > MOST_LEAN) {
            return NONE;
        }
        return Thought.centuries(now.world, c);
    }

    public int chapter(int minutes) {
        Told t = now.told;
        if (minutes == NONE) {
            t.chapters = 0;
            return 0;
        }
        if (minutes < 1 || minutes > 60 || t.chapters >= CHAPTERS) {
            return NONE;
        }
        t.chapterMinutes[t.chapters] = minutes;
        t.chapters++;
        return t.chapters;
    }

    public int read(int k, int what) {
        if (k < 1 || k > STORMS || k > now.told.chapters || what != 0 && what != 1) {
            return NONE;
        }
        thought.readInStorms(now.told, k);
        return what == 0 ? thought.leastSum(k) : thought.secondStorm(now.told, k);
    }

    public int game(int what) {
        switch (what) {
            case 0: return Thought.goodSpout(now.world);
            case 1: return Thought.goodTake(now.world, Thought.goodSpout(now.world));
            default: return NONE;
        }
    }

    public boolean undo() {
        return past.goBack(now.world);
    }

    public boolean image(boolean taken) {
        if (taken) {
            kept.copyFrom(now);
            hasImage = true;
            return true;
        }
        if (!hasImage) {
            return false;
        }
        now.copyFrom(kept);
        past.forget();
        return true;
    }

    public int look(int what) {
        World w = now.world;
        Texts t = now.texts;
        switch (what) {
            case 0: return w.spouts;
            case 1: return w.sitters;
            case 2: return w.rain;
            case 3: return w.said;
            case 4: return w.wrong;
            case 5: return w.day;
            case 6: return w.bookLines;
            case 7: return w.draws;
            case 8: return t.law.lines;
            case 9: return t.gutterLines;
            case 10: return t.weatherLines;
            case 11: return t.planLines;
            case 12: return past.count;
            default: return NONE;
        }
    }

    private static boolean isWord(int word) {
        return word >= 0 && word < WORDS;
    }

    private static boolean isWordSet(int set) {
        return set >= 0 && set < 1 << WORDS;
    }

    private static boolean isRow(int row) {
        int met = 0;
        int rest = row;
        for (int i = 0; i < ROW; i++) {
            int digit = rest % 10;
            if (digit < 0 || digit >= ROW) {
                return false;
            }
            met |= 1 << digit;
            rest /= 10;
        }
        return rest == 0 && met == 15;
    }

    /** All that THE IMAGE takes. */
    static final class Cathedral {
        final World world = new World(false);
        final Book book = new Book();
        final Texts texts = new Texts();
        final Told told = new Told();

        void copyFrom(Cathedral other) {
            world.copyFrom(other.world);
            book.copyFrom(other.book);
            texts.copyFrom(other.texts);
            told.copyFrom(other.told);
        }
    }

    /** All that a day or a hand can change, and so all that UNDO brings back. */
    static final class World {
        final boolean thinks;
        final int[] stone = new int[MOST_SPOUTS];
        final int[] side = new int[MOST_SPOUTS];
        final int[] lean = new int[MOST_SPOUTS];
        final int[] mouth = new int[MOST_SPOUTS];
        final int[] dry = new int[MOST_SPOUTS];
        final int[] heardCount = new int[MOST_SPOUTS];
        final int[] heard = new int[MOST_SPOUTS * MOST_HEARD];
        int spouts;
        final int[] knows = new int[MOST_SITTERS];
        final int[] sitterAt = new int[MOST_SITTERS];
        int sitters;
        final int[] jarAt = new int[JARS];
        final int[] caught = new int[JARS];
        int rain;
        int said;
        int wrong;
        int day;
        int draws;
        // The lines themselves are never changed once written, so their number is enough here.
        int bookLines;

        World(boolean thinks) {
            this.thinks = thinks;
            Arrays.fill(jarAt, NONE);
        }

        void copyFrom(World other) {
            System.arraycopy(other.stone, 0, stone, 0, MOST_SPOUTS);
            System.arraycopy(other.side, 0, side, 0, MOST_SPOUTS);
            System.arraycopy(other.lean, 0, lean, 0, MOST_SPOUTS);
            System.arraycopy(other.mouth, 0, mouth, 0, MOST_SPOUTS);
            System.arraycopy(other.dry, 0, dry, 0, MOST_SPOUTS);
            System.arraycopy(other.heardCount, 0, heardCount, 0, MOST_SPOUTS);
            System.arraycopy(other.heard, 0, heard, 0, MOST_SPOUTS * MOST_HEARD);
            spouts = other.spouts;
            System.arraycopy(other.knows, 0, knows, 0, MOST_SITTERS);
            System.arraycopy(other.sitterAt, 0, sitterAt, 0, MOST_SITTERS);
            sitters = other.sitters;
            System.arraycopy(other.jarAt, 0, jarAt, 0, JARS);
            System.arraycopy(other.caught, 0, caught, 0, JARS);
            rain = other.rain;
            said = other.said;
            wrong = other.wrong;
            day = other.day;
            draws = other.draws;
            bookLines = other.bookLines;
        }

        boolean isSpout(int n) {
            return n >= 0 && n < spouts;
        }

        boolean isSitter(int n) {
            return n >= 0 && n < sitters;
        }

        int addSpout(int ofStone, int atSide, int leaning) {
            int n = spouts;
            if (n >= MOST_SPOUTS) {
                return NONE;
            }
            stone[n] = ofStone;
            side[n] = atSide;
            lean[n] = leaning;
            mouth[n] = OPEN;
            dry[n] = 0;
            heardCount[n] = 0;
            spouts = n + 1;
            return n;
        }

        int addSitter(int words) {
            int n = sitters;
            if (n >= MOST_SITTERS) {
                return NONE;
            }
            knows[n] = words;
            sitterAt[n] = NONE;
            sitters = n + 1;
            return n;
        }

        /** How many there are of those to whom a deed is done (0: no such deed). */
        int countOfWho(int deed) {
            switch (deed) {
                case TO_SEAT:
                case TO_RISE:
                case TO_TELL: return sitters;
                case TO_JAR:
                case TO_EMPTY: return JARS;
                case TO_MEND:
                case TO_LEAD:
                case TO_OPEN: return spouts;
                default: return 0;
            }
        }

        /** How many there are of what a deed names besides (NONE: it names nothing). */
        int countOfWhat(int deed) {
            switch (deed) {
                case TO_SEAT:
                case TO_JAR: return spouts;
                case TO_TELL: return WORDS;
                default: return NONE;
            }
        }

        boolean canDo(int deed, int who, int v) {
            if (who < 0 || who >= countOfWho(deed)) {
                return false;
            }
            int most = countOfWhat(deed);
            return most == NONE || v >= 0 && v < most;
        }

        void carryOut(int deed, int who, int v) {
            if (!canDo(deed, who, v)) {
                return;
            }
            switch (deed) {
                case TO_SEAT: sitterAt[who] = v; break;
                case TO_RISE: sitterAt[who] = NONE; break;
                case TO_JAR: jarAt[who] = v; break;
                case TO_MEND: mouth[who] = MENDED; break;
                case TO_LEAD: mouth[who] = LEADED; break;
                case TO_OPEN: mouth[who] = OPEN; break;
                case TO_TELL: knows[who] |= 1 << v; break;
                default: caught[who] = 0;
            }
        }

        int wordAt(int spout, int i) {
            return isSpout(spout) && i >= 0 && i < MOST_HEARD ? heard[spout * MOST_HEARD + i] : 0;
        }

        int heardSet(int spout) {
            int words = 0;
            for (int i = 0; i < heardCount[spout]; i++) {
                words |= 1 << wordAt(spout, i);
            }
            return words;
        }

        int heardInAll() {
            int sum = 0;
            for (int i = 0; i < spouts; i++) {
                sum += heardCount[i];
            }
            return sum;
        }

        /** Whether the word was new to the spout and came behind what it has heard. */
        boolean takeIn(int spout, int word) {
            int n = heardCount[spout];
            if (n >= MOST_HEARD || (heardSet(spout) >> word & 1) == 1) {
                return false;
            }
            heard[spout * MOST_HEARD + n] = word;
            heardCount[spout] = n + 1;
            return true;
        }

        void dropFirst(int spout) {
            int n = heardCount[spout];
            if (n < 1) {
                return;
            }
            int from = spout * MOST_HEARD;
            System.arraycopy(heard, from + 1, heard, from, n - 1);
            heardCount[spout] = n - 1;
        }

        boolean speaks(int spout) {
            return mouth[spout] == OPEN || mouth[spout] == MENDED && rain >= 5;
        }

        boolean slips(int slip) {
            if (thinks) {
                return slip >= 500;
            }
            draws = 1664525 * draws + 1013904223;
            return (draws >>> 8) % 1000 < slip;
        }

        void fillJarsAt(int spout, int word) {
            for (int i = 0; i < JARS; i++) {
                if (jarAt[i] == spout) {
                    caught[i] |= 1 << word;
                }
            }
        }
    }

    /** THE BOOK. */
    static final class Book {
        final int[] day = new int[BOOK_LINES];
        final int[] what = new int[BOOK_LINES];
        final int[] which = new int[BOOK_LINES];
        final int[] word = new int[BOOK_LINES];

        void write(World w, int deed, int spout, int ofWord) {
            int n = w.bookLines;
            if (w.thinks || n >= BOOK_LINES) {
                return;
            }
            day[n] = w.day;
            what[n] = deed;
            which[n] = spout;
            word[n] = ofWord;
            w.bookLines = n + 1;
        }

        void copyFrom(Book other) {
            System.arraycopy(other.day, 0, day, 0, BOOK_LINES);
            System.arraycopy(other.what, 0, what, 0, BOOK_LINES);
            System.arraycopy(other.which, 0, which, 0, BOOK_LINES);
            System.arraycopy(other.word, 0, word, 0, BOOK_LINES);
        }
    }

    /** What UNDO can go back to: a ring of the latest worlds. */
    static final class Past {
        final World[] ring = new World[UNDO_KEPT];
        int count;
        int next;

        Past() {
            for (int i = 0; i < UNDO_KEPT; i++) {
                ring[i] = new World(false);
            }
        }

        void keep(World w) {
            ring[next].copyFrom(w);
            next = (next + 1) % UNDO_KEPT;
            count = Math.min(count + 1, UNDO_KEPT);
        }

        boolean goBack(World w) {
            if (count < 1) {
                return false;
            }
            next = (next + UNDO_KEPT - 1) % UNDO_KEPT;
            count--;
            w.copyFrom(ring[next]);
            return true;
        }

        void forget() {
            count = 0;
        }
    }

    /** A day as it goes by, really or in thought. */
    static final class DayRun {
        final int[] waitingWord = new int[MOST_SPOUTS * MOST_JET];
        final int[] waitingInto = new int[MOST_SPOUTS * MOST_JET];
        int waiting;

        void pass(World w, Texts t, Book b) {
            for (int i = 0; i < t.planLines; i++) {
                if (t.planDay[i] == w.day) {
                    w.carryOut(t.planDeed[i], t.planWho[i], t.planWhat[i]);
                }
            }
            int told = t.rainOn(w.day);
            if (told != NONE) {
                w.rain = told;
            }
            if (w.rain == 0) {
                passDry(w, t, b);
            } else {
                passWet(w, t, b);
            }
            w.day++;
        }

        private void passDry(World w, Texts t, Book b) {
            for (int spout = 0; spout < w.spouts; spout++) {
                for (int i = 0; i < w.sitters && w.mouth[spout] != LEADED; i++) {
                    if (w.sitterAt[i] == spout) {
                        listen(w, t, b, spout, w.knows[i]);
                    }
                }
                w.dry[spout] = Math.min(w.dry[spout] + 1, MOST_DRY);
            }
        }

        private void listen(World w, Texts t, Book b, int spout, int words) {
            int left = t.law.tells(HEARS, w, spout, 0);
            for (int word = 0; word < WORDS && left > 0; word++) {
                if ((words >> word & 1) == 1 && w.takeIn(spout, word)) {
                    b.write(w, WAS_HEARD, spout, word);
                    left--;
                }
            }
        }

        private void passWet(World w, Texts t, Book b) {
            waiting = 0;
            for (int spout = 0; spout < w.spouts; spout++) {
                if (w.speaks(spout)) {
                    int jet = Math.min(t.law.tells(JET, w, spout, 0), w.heardCount[spout]);
                    for (int i = 0; i < jet; i++) {
                        sayFirst(w, t, b, spout);
                    }
                }
            }
            leadOn(w, b);
            for (int spout = 0; spout < w.spouts; spout++) {
                w.dry[spout] = 0;
            }
        }

        private void sayFirst(World w, Texts t, Book b, int spout) {
            int word = w.wordAt(spout, 0);
            if (w.slips(t.law.tells(SLIP, w, spout, word))) {
                word = (word + 1) % WORDS;
                w.wrong++;
            }
            w.said++;
            w.fillJarsAt(spout, word);
            b.write(w, WAS_SAID, spout, word);
            int into = t.gutterOf(spout);
            if (into != NONE && waiting < MOST_SPOUTS * MOST_JET) {
                waitingWord[waiting] = word;
                waitingInto[waiting] = into;
                waiting++;
            }
            w.dropFirst(spout);
        }

        private void leadOn(World w, Book b) {
            for (int i = 0; i < waiting; i++) {
                int spout = waitingInto[i];
                if (w.mouth[spout] != LEADED && w.takeIn(spout, waitingWord[i])) {
                    b.write(w, WAS_LED_ON, spout, waitingWord[i]);
                }
            }
        }
    }

    /** The four texts as they were understood; a draft of them reads itself from tokens. */
    static final class Texts {
        final Law law = new Law();
        final int[] into = new int[MOST_SPOUTS];
        int gutterLines;
        final int[] weatherDay = new int[MOST_LINES];
        final int[] weatherRain = new int[MOST_LINES];
        int weatherLines;
        final int[] planDay = new int[MOST_LINES];
        final int[] planDeed = new int[MOST_LINES];
        final int[] planWho = new int[MOST_LINES];
        final int[] planWhat = new int[MOST_LINES];
        int planLines;

        Texts() {
            Arrays.fill(into, NONE);
        }

        /** The spout into which one leads (NONE: it has no gutter, or is none itself). */
        int gutterOf(int spout) {
            return spout >= 0 && spout < MOST_SPOUTS ? into[spout] : NONE;
        }

        int rainOn(int day) {
            for (int i = 0; i < weatherLines; i++) {
                if (weatherDay[i] == day) {
                    return weatherRain[i];
                }
            }
            return NONE;
        }

        void copyFrom(Texts other) {
            law.copyFrom(other.law);
            copyGutters(other);
            copyWeather(other);
            copyPlan(other);
        }

        void copyGutters(Texts other) {
            System.arraycopy(other.into, 0, into, 0, MOST_SPOUTS);
            gutterLines = other.gutterLines;
        }

        void copyWeather(Texts other) {
            System.arraycopy(other.weatherDay, 0, weatherDay, 0, MOST_LINES);
            System.arraycopy(other.weatherRain, 0, weatherRain, 0, MOST_LINES);
            weatherLines = other.weatherLines;
        }

        void copyPlan(Texts other) {
            System.arraycopy(other.planDay, 0, planDay, 0, MOST_LINES);
            System.arraycopy(other.planDeed, 0, planDeed, 0, MOST_LINES);
            System.arraycopy(other.planWho, 0, planWho, 0, MOST_LINES);
            System.arraycopy(other.planWhat, 0, planWhat, 0, MOST_LINES);
            planLines = other.planLines;
        }

        boolean readGutters(Tokens t, World w) {
            Arrays.fill(into, NONE);
            gutterLines = 0;
            for (int line = 0; line <= MOST_LINES && !t.isAtEnd(); line++) {
                if (!t.takeLineStart(0, line)) {
                    return false;
                }
                int from = t.takeBelow(w.spouts);
                if (from == NONE || !t.take(Tokens.KEYWORD, 1)) {
                    return false;
                }
                if (t.number() == from) {
                    return t.refuse(BAD_NUMBER);
                }
                int target = t.takeBelow(w.spouts);
                if (target == NONE || !t.take(Tokens.SIGN, ';')) {
                    return false;
                }
                into[from] = target;
                gutterLines = line + 1;
            }
            return true;
        }

        boolean readWeather(Tokens t) {
            weatherLines = 0;
            for (int line = 0; line <= MOST_LINES && !t.isAtEnd(); line++) {
                if (!t.takeLineStart(0, line)) {
                    return false;
                }
                int day = t.takeBelow(1000);
                if (day == NONE || !t.take(Tokens.KEYWORD, 1)) {
                    return false;
                }
                int rain = t.takeBelow(MOST_RAIN + 1);
                if (rain == NONE || !t.take(Tokens.SIGN, ';') || line >= MOST_LINES) {
                    return false;
                }
                weatherDay[line] = day;
                weatherRain[line] = rain;
                weatherLines = line + 1;
            }
            return true;
        }

        boolean readPlan(Tokens t, World w) {
            planLines = 0;
            for (int line = 0; line <= MOST_LINES && !t.isAtEnd(); line++) {
                if (!t.takeLineStart(ON, line) || line >= MOST_LINES) {
                    return false;
                }
                int day = t.takeBelow(1000);
                if (day == NONE || !readDeed(t, w, line) || !t.take(Tokens.SIGN, ';')) {
                    return false;
                }
                planDay[line] = day;
                planLines = line + 1;
            }
            return true;
        }

        private boolean readDeed(Tokens t, World w, int line) {
            int deed = t.keyword();
            if (deed < TO_SEAT || deed > TO_TELL) {
                return t.refuse(CANT_STAND);
            }
            t.step();
            int who = t.takeBelow(w.countOfWho(deed));
            if (who == NONE) {
                return false;
            }
            int what = 0;
            int most = w.countOfWhat(deed);
            if (most != NONE) {
                if (deed != TO_TELL && !t.take(Tokens.KEYWORD, AT)) {
                    return false;
                }
                what = t.takeBelow(most);
            }
            planDeed[line] = deed;
            planWho[line] = who;
            planWhat[line] = what;
            return what != NONE;
        }
    }

    /** THE LAW, each line as steps that work on a stack. */
    static final class Law {
        static final int PUT_NUMBER = 0;
        static final int PUT_FACT = 1;
        static final int ADD = 2;
        static final int TAKE = 3;
        static final int TIMES = 4;
        static final int PART = 5;
        static final int LESS = 6;
        static final int SAME = 7;
        static final int MORE = 8;
        static final int TURN = 9;
        static final int BOTH = 10;
        static final int EITHER = 11;

        // Nine levels with an "or" and an "and" waiting each, and a sum: 24 are enough.
        static final int STACK = 40;

        final int[] step = new int[TAPE_BYTES];
        final int[] number = new int[TAPE_BYTES];
        int steps;
        final int[] kind = new int[MOST_LINES];
        final int[] from = new int[MOST_LINES];
        final int[] when = new int[MOST_LINES];
        final int[] behind = new int[MOST_LINES];
        int lines;
        final int[] stack = new int[STACK];
        final int[] facts = new int[FACTS];

        void clear() {
            steps = 0;
            lines = 0;
        }

        void add(int what, int n) {
            if (steps < TAPE_BYTES) {
                step[steps] = what;
                number[steps] = n;
                steps++;
            }
        }

        void addLine(int ofKind, int begin, int condition) {
            if (lines < MOST_LINES) {
                kind[lines] = ofKind;
                from[lines] = begin;
                when[lines] = condition;
                behind[lines] = steps;
                lines++;
            }
        }

        void copyFrom(Law other) {
            System.arraycopy(other.step, 0, step, 0, other.steps);
            System.arraycopy(other.number, 0, number, 0, other.steps);
            steps = other.steps;
            System.arraycopy(other.kind, 0, kind, 0, MOST_LINES);
            System.arraycopy(other.from, 0, from, 0, MOST_LINES);
            System.arraycopy(other.when, 0, when, 0, MOST_LINES);
            System.arraycopy(other.behind, 0, behind, 0, MOST_LINES);
            lines = other.lines;
        }

        int tells(int ofKind, World w, int spout, int word) {
            int most = ofKind == SLIP ? 1000 : 9;
            int told = ofKind == HEARS ? 2 : ofKind == JET ? w.rain : 20 * w.rain;
            gatherFacts(w, spout, word);
            for (int i = 0; i < lines; i++) {
                if (kind[i] == ofKind && (when[i] >= behind[i] || worth(when[i], behind[i]) != 0)) {
                    told = worth(from[i], when[i]);
                    break;
                }
            }
            return Math.max(0, Math.min(told, most));
        }

        private void gatherFacts(World w, int spout, int word) {
            facts[0] = w.stone[spout];
            facts[1] = w.side[spout];
            facts[2] = w.lean[spout];
            facts[3] = w.mouth[spout];
            facts[4] = w.rain;
            facts[5] = w.heardCount[spout];
            facts[6] = w.dry[spout];
            facts[7] = word;
            facts[8] = w.day;
        }

        private int worth(int begin, int stop) {
            int top = 0;
            for (int i = begin; i < stop; i++) {
                int n = number[i];
                if (step[i] <= PUT_FACT) {
                    if (top < STACK) {
                        stack[top] = step[i] == PUT_NUMBER || n < 0 || n >= FACTS ? n : facts[n];
                        top++;
                    }
                } else if (step[i] == PART) {
                    if (top > 0 && n != 0) {
                        stack[top - 1] /= n;
                    }
                } else if (step[i] == TURN) {
                    if (top > 0) {
                        stack[top - 1] = 1 - stack[top - 1];
                    }
                } else if (top > 1) {
                    top--;
                    stack[top - 1] = joined(step[i], stack[top - 1], stack[top]);
                }
            }
            return top > 0 ? stack[0] : 0;
        }

        private static int joined(int how, int a, int b) {
            switch (how) {
                case ADD: return a + b;
                case TAKE: return a - b;
                case TIMES: return a * b;
                case LESS: return a < b ? 1 : 0;
                case SAME: return a == b ? 1 : 0;
                case MORE: return a > b ? 1 : 0;
                case BOTH: return a & b;
                default: return a | b;
            }
        }
    }

    /** A text parted into tokens, the one at which the reader stands, and the fault it met. */
    static final class Tokens {
        static final int NOTHING = 0;
        static final int NUMBER = 1;
        static final int KEYWORD = 2;
        static final int SIGN = 3;
        static final int END = 4;

        final int[] kind = new int[TAPE_BYTES + 1];
        final int[] value = new int[TAPE_BYTES + 1];
        final int[] place = new int[TAPE_BYTES + 1];
        int count;
        int at;
        int faultKind;
        int faultPlace = NONE;

        void clear() {
            count = 0;
            at = 0;
            faultKind = 0;
            faultPlace = NONE;
        }

        void split(int[] tape, int length, String keywords) {
            clear();
            for (int i = 0; i < length; i++) {
                boolean goesOn = i > 0 && (isLetter(tape[i]) && isLetter(tape[i - 1])
                    || isDigit(tape[i]) && isDigit(tape[i - 1]));
                if (goesOn || tape[i] == 32 || tape[i] == 10) {
                    continue;
                }
                if (isLetter(tape[i])) {
                    int word = keywordAt(tape, i, length, keywords);
                    add(word == NONE ? NOTHING : KEYWORD, word, i);
                } else if (isDigit(tape[i])) {
                    int number = numberAt(tape, i, length);
                    add(number == NONE ? NOTHING : NUMBER, number, i);
                } else {
                    add(isSignOfLaw(tape[i]) ? SIGN : NOTHING, tape[i], i);
                }
            }
            add(END, 0, length);
        }

        private void add(int ofKind, int ofValue, int atPlace) {
            if (count <= TAPE_BYTES) {
                kind[count] = ofKind;
                value[count] = ofValue;
                place[count] = atPlace;
                count++;
            }
        }

        private static boolean isLetter(int c) {
            return c >= 'a' && c <= 'z' || c >= 'A' && c <= 'Z';
        }

        private static boolean isDigit(int c) {
            return c >= '0' && c <= '9';
        }

        private static boolean isSignOfLaw(int c) {
            return c == ';' || c == '+' || c == '-' || c == '*' || c == '/' || c == '(' || c == ')'
                || c == '<' || c == '=' || c == '>';
        }

        private static int numberAt(int[] tape, int from, int length) {
            int number = 0;
            for (int i = from; i < length && isDigit(tape[i]); i++) {
                if (i - from >= 4) {
                    return NONE;
                }
                number = number * 10 + tape[i] - '0';
            }
            return number;
        }

        private static int keywordAt(int[] tape, int from, int length, String keywords) {
            int number = 0;
            int start = 0;
            for (int i = 0; i <= keywords.length(); i++) {
                if (i == keywords.length() || keywords.charAt(i) == ' ') {
                    int behind = from + i - start;
                    boolean whole = behind == length || behind < length && !isLetter(tape[behind]);
                    if (whole && sameLetters(tape, from, keywords, start, i)) {
                        return number;
                    }
                    number++;
                    start = i + 1;
                }
            }
            return NONE;
        }

        private static boolean sameLetters(int[] tape, int from, String keywords, int start, int stop) {
            for (int i = start; i < stop; i++) {
                if (tape[from + i - start] != keywords.charAt(i)) {
                    return false;
                }
            }
            return true;
        }

        boolean isAtEnd() {
            return at >= count || kind[at] == END;
        }

        boolean isAt(int ofKind, int ofValue) {
            return at < count && kind[at] == ofKind && value[at] == ofValue;
        }

        /** The keyword at which the reader stands (NONE: it stands at none). */
        int keyword() {
            return at < count && kind[at] == KEYWORD ? value[at] : NONE;
        }

        /** The number at which the reader stands (NONE: it stands at none). */
        int number() {
            return at < count && kind[at] == NUMBER ? value[at] : NONE;
        }

        void step() {
            if (at < count - 1) {
                at++;
            }
        }

        boolean refuse(int fault) {
            faultKind = fault;
            faultPlace = at < count ? place[at] : 0;
            return false;
        }

        boolean take(int ofKind, int ofValue) {
            if (!isAt(ofKind, ofValue)) {
                return refuse(CANT_STAND);
            }
            step();
            return true;
        }

        boolean takeLineStart(int ofValue, int line) {
            if (isAt(KEYWORD, ofValue) && line >= MOST_LINES) {
                return refuse(TOO_MANY);
            }
            return take(KEYWORD, ofValue);
        }

        /** A number below a bound; NONE, and a fault, if there is none such. */
        int takeBelow(int bound) {
            int n = number();
            if (n == NONE) {
                refuse(CANT_STAND);
                return NONE;
            }
            if (n >= bound) {
                refuse(BAD_NUMBER);
                return NONE;
            }
            step();
            return n;
        }
    }

    /** Reads THE LAW; what waits for its right side stands in a row of its own, so nothing recurs. */
    static final class LawReader {
        static final int MOST_OPEN = 8;
        static final int PAREN = 0;
        static final int MOST_WAITING = 40;

        final int[] waiting = new int[MOST_WAITING];
        int waits;
        int open;
        int parens;

        boolean readLaw(Tokens t, Law law) {
            law.clear();
            for (int line = 0; line <= MOST_LINES && !t.isAtEnd(); line++) {
                int kind = t.keyword();
                if (kind < HEARS || kind > SLIP) {
                    return t.refuse(CANT_STAND);
                }
                int from = law.steps;
                if (!t.takeLineStart(kind, line) || !sum(t, law)) {
                    return false;
                }
                int when = law.steps;
                if (t.keyword() == WHEN) {
                    t.step();
                    if (!conditions(t, law)) {
                        return false;
                    }
                }
                if (!t.take(Tokens.SIGN, ';')) {
                    return false;
                }
                law.addLine(kind, from, when);
            }
            return true;
        }

        private boolean conditions(Tokens t, Law law) {
            waits = 0;
            open = 0;
            parens = 0;
            for (int i = 0; i <= TAPE_BYTES; i++) {
                if (!openAll(t) || !comparison(t, law)) {
                    return false;
                }
                closeAll(t, law);
                if (t.keyword() != AND && t.keyword() != OR) {
                    break;
                }
                int how = t.keyword();
                settleBinary(law, how);
                push(how);
                t.step();
            }
            if (parens > 0) {
                return t.refuse(CANT_STAND);
            }
            settleBinary(law, OR);
            return true;
        }

        private void push(int what) {
            if (waits < MOST_WAITING) {
                waiting[waits] = what;
                waits++;
            }
        }

        private boolean openAll(Tokens t) {
            for (int i = 0; i <= MOST_OPEN; i++) {
                boolean paren = t.isAt(Tokens.SIGN, '(');
                if (!paren && t.keyword() != NOT) {
                    return true;
                }
                if (open >= MOST_OPEN) {
                    return t.refuse(TOO_MANY);
                }
                open++;
                if (paren) {
                    parens++;
                }
                push(paren ? PAREN : NOT);
                t.step();
            }
            return true;
        }

        private void closeAll(Tokens t, Law law) {
            settleNots(law);
            for (int i = 0; i < MOST_OPEN && parens > 0 && t.isAt(Tokens.SIGN, ')'); i++) {
                settleBinary(law, OR);
                waits--;
                parens--;
                open--;
                t.step();
                settleNots(law);
            }
        }

        private void settleNots(Law law) {
            for (int i = 0; i < MOST_OPEN && waits > 0 && waiting[waits - 1] == NOT; i++) {
                law.add(Law.TURN, 0);
                waits--;
                open--;
            }
        }

        /** What binds at least as strongly as the word that comes now has both its sides. */
        private void settleBinary(Law law, int coming) {
            for (int i = 0; i < MOST_WAITING && waits > 0; i++) {
                int last = waiting[waits - 1];
                if (last != AND && (last != OR || coming != OR)) {
                    break;
                }
                law.add(last == AND ? Law.BOTH : Law.EITHER, 0);
                waits--;
            }
        }

        private boolean comparison(Tokens t, Law law) {
            if (!sum(t, law)) {
                return false;
            }
            int how = t.isAt(Tokens.SIGN, '<') ? Law.LESS : t.isAt(Tokens.SIGN, '=') ? Law.SAME
                : t.isAt(Tokens.SIGN, '>') ? Law.MORE : NONE;
            if (how == NONE) {
                return t.refuse(CANT_STAND);
            }
            t.step();
            if (!sum(t, law)) {
                return false;
            }
            law.add(how, 0);
            return true;
        }

        /** A sum; its + or - waits until the product on its right side is whole. */
        private boolean sum(Tokens t, Law law) {
            boolean fine = unit(t, law);
            int late = NONE;
            for (int i = 0; i < TAPE_BYTES && fine; i++) {
                if (t.isAt(Tokens.SIGN, '*')) {
                    t.step();
                    fine = unit(t, law);
                    law.add(Law.TIMES, 0);
                } else if (t.isAt(Tokens.SIGN, '/')) {
                    t.step();
                    fine = part(t, law);
                } else if (t.isAt(Tokens.SIGN, '+') || t.isAt(Tokens.SIGN, '-')) {
                    addLate(law, late);
                    late = t.isAt(Tokens.SIGN, '+') ? Law.ADD : Law.TAKE;
                    t.step();
                    fine = unit(t, law);
                } else {
                    break;
                }
            }
            addLate(law, late);
            return fine;
        }

        private void addLate(Law law, int late) {
            if (late != NONE) {
                law.add(late, 0);
            }
        }

        private boolean part(Tokens t, Law law) {
            int by = t.number();
            if (by < 1) {
                return t.refuse(by == 0 ? BAD_NUMBER : CANT_STAND);
            }
            law.add(Law.PART, by);
            t.step();
            return true;
        }

        private boolean unit(Tokens t, Law law) {
            if (t.number() != NONE) {
                law.add(Law.PUT_NUMBER, t.number());
            } else if (t.keyword() >= FIRST_FACT) {
                law.add(Law.PUT_FACT, t.keyword() - FIRST_FACT);
            } else {
                return t.refuse(CANT_STAND);
            }
            t.step();
            return true;
        }
    }

    /** What is told for thought alone. */
    static final class Told {
        final int[] seatWho = new int[SEATS];
        final int[] seatBelow = new int[SEATS];
        int seats;
        final int[] quarrelOne = new int[QUARRELS];
        final int[] quarrelOther = new int[QUARRELS];
        int quarrels;
        final int[] latinOf = new int[WORDS];
        final int[] masonRows = new int[ROW * ROW];
        final int[] stoneRows = new int[ROW * ROW];
        final int[] droughtRain = new int[DROUGHT_DAYS];
        int droughtDays;
        final int[] chapterMinutes = new int[CHAPTERS];
        int chapters;

        Told() {
            for (int i = 0; i < WORDS; i++) {
                latinOf[i] = i;
            }
            for (int i = 0; i < ROW * ROW; i++) {
                masonRows[i] = i % ROW;
                stoneRows[i] = i % ROW;
            }
        }

        void copyFrom(Told other) {
            System.arraycopy(other.seatWho, 0, seatWho, 0, SEATS);
            System.arraycopy(other.seatBelow, 0, seatBelow, 0, SEATS);
            seats = other.seats;
            System.arraycopy(other.quarrelOne, 0, quarrelOne, 0, QUARRELS);
            System.arraycopy(other.quarrelOther, 0, quarrelOther, 0, QUARRELS);
            quarrels = other.quarrels;
            System.arraycopy(other.latinOf, 0, latinOf, 0, WORDS);
            System.arraycopy(other.masonRows, 0, masonRows, 0, ROW * ROW);
            System.arraycopy(other.stoneRows, 0, stoneRows, 0, ROW * ROW);
            System.arraycopy(other.droughtRain, 0, droughtRain, 0, DROUGHT_DAYS);
            droughtDays = other.droughtDays;
            System.arraycopy(other.chapterMinutes, 0, chapterMinutes, 0, CHAPTERS);
            chapters = other.chapters;
        }

        int longestRun() {
            int begins = longestRunBegins();
            int length = 0;
            for (int i = begins; i >= 0 && i < droughtDays && droughtRain[i] == 0; i++) {
                length++;
            }
            return length;
        }

        int longestRunBegins() {
            int best = 0;
            int begins = NONE;
            int run = 0;
            for (int i = 0; i < droughtDays; i++) {
                run = droughtRain[i] == 0 ? run + 1 : 0;
                if (run > best) {
                    best = run;
                    begins = i - run + 1;
                }
            }
            return begins;
        }

        int minutes(int from, int to) {
            int sum = 0;
            for (int i = from; i < to && i < chapters; i++) {
                sum += chapterMinutes[i];
            }
            return sum;
        }
    }

    /** What is asked in thought, with rows of its own that every call uses again. */
    static final class Thought {
        final int[] maySit = new int[MOST_SITTERS];
        final int[] sits = new int[MOST_SITTERS];
        final int[] waysWith = new int[MOST_SITTERS * MOST_SPOUTS];
        int wayCount;
        final int[] colour = new int[MOST_SPOUTS];
        int groups;
        int onFirstSide;
        final int[] words = new int[MOST_SPOUTS];
        final int[] stoneOf = new int[ROW];
        final int[] masonOf = new int[ROW];
        final int[] refused = new int[ROW];
        int offers;
        final int[] least = new int[(STORMS + 1) * (CHAPTERS + 1)];

        int tellers(World w, Texts t, int word, int spout) {
            int set = 0;
            for (int i = 0; i < w.sitters; i++) {
                if ((w.knows[i] >> word & 1) == 1 && (reach(t, w.sitterAt[i]) >> spout & 1) == 1) {
                    set |= 1 << i;
                }
            }
            return set;
        }

        /** The spout and all to which gutters lead from it. */
        private int reach(Texts t, int spout) {
            int set = 0;
            int at = spout;
            for (int i = 0; i < MOST_SPOUTS && at != NONE; i++) {
                set |= 1 << at;
                at = t.gutterOf(at);
            }
            return set;
        }

        /** The spouts at which all that is said ends: one without a gutter, or a whole round. */
        private int lastOnes(Texts t, int spout) {
            int at = spout;
            for (int i = 0; i < MOST_SPOUTS && t.gutterOf(at) != NONE; i++) {
                at = t.gutterOf(at);
            }
            return reach(t, at);
        }

        int endOf(Texts t, int spout) {
            int last = lastOnes(t, spout);
            int least = 0;
            for (int i = 0; i < MOST_SPOUTS && (last >> least & 1) == 0; i++) {
                least++;
            }
            return least;
        }

        int guttersToEnd(Texts t, int spout) {
            int last = lastOnes(t, spout);
            int at = spout;
            int count = 0;
            for (int i = 0; i < MOST_SPOUTS && at != NONE && (last >> at & 1) == 0; i++) {
                at = t.gutterOf(at);
                count++;
            }
            return count;
        }

        /** Each end needs one jar at least, and the least spout of each round is enough. */
        int allEnds(World w, Texts t) {
            int set = 0;
            for (int i = 0; i < w.spouts; i++) {
                set |= 1 << endOf(t, i);
            }
            return set;
        }

        void countWays(Told t) {
            Arrays.fill(maySit, 0);
            Arrays.fill(waysWith, 0);
            wayCount = 0;
            for (int i = 0; i < t.seats; i++) {
                maySit[t.seatWho[i]] |= 1 << t.seatBelow[i];
            }
            seatFrom(0, 0);
        }

        private void seatFrom(int sitter, int taken) {
            if (sitter >= MOST_SITTERS) {
                countWay();
            } else if (maySit[sitter] == 0) {
                seatFrom(sitter + 1, taken);
            } else {
                for (int spout = 0; spout < MOST_SPOUTS; spout++) {
                    if (((maySit[sitter] & ~taken) >> spout & 1) == 1) {
                        sits[sitter] = spout;
                        seatFrom(sitter + 1, taken | 1 << spout);
                    }
                }
            }
        }

        private void countWay() {
            wayCount++;
            for (int i = 0; i < MOST_SITTERS; i++) {
                if (maySit[i] != 0) {
                    waysWith[i * MOST_SPOUTS + sits[i]]++;
                }
            }
        }

        int sureCouples() {
            int sure = 0;
            for (int i = 0; i < MOST_SITTERS; i++) {
                for (int spout = 0; spout < MOST_SPOUTS; spout++) {
                    if ((maySit[i] >> spout & 1) == 1 && waysWith[i * MOST_SPOUTS + spout] == wayCount) {
                        sure++;
                    }
                }
            }
            return sure;
        }

        int whomToAsk() {
            int best = NONE;
            int bestGreatest = 0;
            for (int i = 0; i < MOST_SITTERS; i++) {
                int greatest = 0;
                for (int spout = 0; spout < MOST_SPOUTS; spout++) {
                    greatest = Math.max(greatest, waysWith[i * MOST_SPOUTS + spout]);
                }
                if (maySit[i] != 0 && (best == NONE || greatest < bestGreatest)) {
                    best = i;
                    bestGreatest = greatest;
                }
            }
            return best;
        }

        void partGroups(Told t) {
            Arrays.fill(colour, NONE);
            groups = 0;
            onFirstSide = 0;
            for (int i = 0; i < t.quarrels; i++) {
                int first = t.quarrelOne[i];
                if (colour[first] == NONE) {
                    // Colours 2g and 2g + 1 are the two sides of group g.
                    colour[first] = 2 * groups;
                    spread(t);
                    onFirstSide += Math.max(countColour(2 * groups), countColour(2 * groups + 1));
                    groups++;
                }
            }
            for (int i = 0; i < t.quarrels; i++) {
                if (colour[t.quarrelOne[i]] == colour[t.quarrelOther[i]]) {
                    onFirstSide = NONE;
                }
            }
        }

        private void spread(Told t) {
            for (int round = 0; round < MOST_SPOUTS; round++) {
                for (int i = 0; i < t.quarrels; i++) {
                    int one = t.quarrelOne[i];
                    int other = t.quarrelOther[i];
                    if (colour[one] != NONE && colour[other] == NONE) {
                        colour[other] = colour[one] ^ 1;
                    } else if (colour[one] == NONE && colour[other] != NONE) {
                        colour[one] = colour[other] ^ 1;
                    }
                }
            }
        }

        private int countColour(int c) {
            int count = 0;
            for (int i = 0; i < MOST_SPOUTS; i++) {
                if (colour[i] == c) {
                    count++;
                }
            }
            return count;
        }

        int fewestThatKnow(World w, int wanted) {
            for (int i = 0; i < w.spouts; i++) {
                words[i] = w.heardSet(i);
            }
            int best = NONE;
            int fewest = MOST_SPOUTS + 1;
            for (int set = 0; set < 1 << w.spouts; set++) {
                int count = Integer.bitCount(set);
                if (count < fewest && (wanted & ~wordsOf(set, w.spouts)) == 0) {
                    best = set;
                    fewest = count;
                }
            }
            return best;
        }

        private int wordsOf(int set, int spouts) {
            int all = 0;
            for (int i = 0; i < spouts; i++) {
                if ((set >> i & 1) == 1) {
                    all |= words[i];
                }
            }
            return all;
        }

        int stepsAgain(Told t, int word) {
            int met = 1 << word;
            int at = word;
            for (int step = 1; step <= WORDS; step++) {
                at = t.latinOf[at];
                if ((met >> at & 1) == 1) {
                    return step;
                }
                met |= 1 << at;
            }
            return NONE;
        }

        int allAgain(Told t) {
            int met = 0;
            for (int i = 0; i < WORDS; i++) {
                met |= 1 << t.latinOf[i];
            }
            if (Integer.bitCount(met) < WORDS) {
                return NONE;
            }
            int all = 1;
            for (int i = 0; i < WORDS; i++) {
                all = commonMultiple(all, stepsAgain(t, i));
            }
            return all;
        }

        private static int commonMultiple(int a, int b) {
            for (int i = 1; i <= b; i++) {
                if (a * i % b == 0) {
                    return a * i;
                }
            }
            return a;
        }

        void makeOffers(Told t) {
            Arrays.fill(stoneOf, NONE);
            Arrays.fill(masonOf, NONE);
            Arrays.fill(refused, 0);
            offers = 0;
            for (int i = 0; i < ROW * ROW; i++) {
                int mason = firstWithout();
                if (mason == NONE || refused[mason] >= ROW) {
                    break;
                }
                offers++;
                offer(t, mason, t.masonRows[mason * ROW + refused[mason]]);
            }
        }

        private int firstWithout() {
            for (int i = 0; i < ROW; i++) {
                if (stoneOf[i] == NONE) {
                    return i;
                }
            }
            return NONE;
        }

        private void offer(Told t, int mason, int stone) {
            int had = masonOf[stone];
            if (had != NONE && dearness(t, stone, had) < dearness(t, stone, mason)) {
                refused[mason]++;
                return;
            }
            if (had != NONE) {
                stoneOf[had] = NONE;
                refused[had]++;
            }
            masonOf[stone] = mason;
            stoneOf[mason] = stone;
        }

        /** The place in a stone's row: the less, the dearer. */
        private static int dearness(Told t, int stone, int mason) {
            for (int i = 0; i < ROW; i++) {
                if (t.stoneRows[stone * ROW + i] == mason) {
                    return i;
                }
            }
            return ROW;
        }

        static int likely(int p, int n, int m) {
            long q = p * 1000L;
            for (int i = 0; i < n; i++) {
                q = weighed(q, 600, 400);
            }
            for (int i = 0; i < m; i++) {
                q = weighed(q, 400, 600);
            }
            return (int) q;
        }

        private static long weighed(long q, long a, long b) {
            long all = q * a + (1000000 - q) * b;
            return all == 0 ? 0 : q * a * 1000000 / all;
        }

        static int centuries(World w, int c) {
            int most = 0;
            for (int i = 0; i < w.spouts; i++) {
                int lean = w.lean[i];
                int count = 0;
                for (int century = 0; century < MOST_LEAN && lean < c; century++) {
                    lean += lean / 10 + 1;
                    count++;
                }
                most = Math.max(most, count);
            }
            return most;
        }

        /** For each number of storms and each first chapter the least greatest sum from there on. */
        void readInStorms(Told t, int k) {
            for (int from = 0; from <= t.chapters; from++) {
                least[storm(1, from)] = t.minutes(from, t.chapters);
            }
            for (int storms = 2; storms <= k; storms++) {
                for (int from = 0; from <= t.chapters - storms; from++) {
                    int best = t.minutes(0, t.chapters);
                    for (int next = from + 1; next <= t.chapters - storms + 1; next++) {
                        best = Math.min(best, greatestSum(t, storms, from, next));
                    }
                    least[storm(storms, from)] = best;
                }
            }
        }

        private static int storm(int storms, int from) {
            return storms * (CHAPTERS + 1) + from;
        }

        private int greatestSum(Told t, int storms, int from, int next) {
            return Math.max(t.minutes(from, next), least[storm(storms - 1, next)]);
        }

        int leastSum(int k) {
            return least[storm(k, 0)];
        }

        int secondStorm(Told t, int k) {
            for (int next = 1; k > 1 && next <= t.chapters - k + 1; next++) {
                if (greatestSum(t, k, 0, next) == leastSum(k)) {
                    return next;
                }
            }
            return NONE;
        }

        // Taking 1, 2 or 4 never leaves the same rest by 3, so that rest is a heap's worth in the game.
        static int goodSpout(World w) {
            for (int i = 0; i < w.spouts; i++) {
                if (goodTake(w, i) != NONE) {
                    return i;
                }
            }
            return NONE;
        }

        static int goodTake(World w, int spout) {
            if (!w.isSpout(spout)) {
                return NONE;
            }
            int others = 0;
            for (int i = 0; i < w.spouts; i++) {
                others ^= i == spout ? 0 : w.heardCount[i] % 3;
            }
            for (int take = 1; take <= 4 && take <= w.heardCount[spout]; take *= 2) {
                if ((w.heardCount[spout] - take) % 3 == others) {
                    return take;
                }
            }
            return NONE;
        }
    }
}
