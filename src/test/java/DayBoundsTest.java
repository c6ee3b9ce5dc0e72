/** A day, what is heard, said, caught and led on, THE BOOK, and how days go in thought (promises 7, 16 and 17). */
public final class DayBoundsTest {
    private static final int NONE = SpoutNews.NONE;

    public static void main(String[] args) {
        howManyDays();
        planDays();
        planLineByLine();
        weatherDays();
        whoHears();
        howManyAreHeard();
        dryDays();
        whoSays();
        howManyAreSaid();
        slipsAskedThen();
        draws();
        theNextWord();
        jars();
        waiting();
        ledInto();
        theBook();
        theBookIsFull();
        goesFor();
        goesSlips();
        goesStays();
        Check.end("DayBoundsTest");
    }

    /** One spout that has heard all the words told (in the order of their numbers), and a law that says them all right. */
    private static Run heard(int words) {
        return Run.of(1, words).act(0, 0, 0).text(0, "hears 9;jet 9;slip 0;").days(2);
    }

    private static void row(String what, Run r, int spout, int... words) {
        Check.due(what + ": how many spout " + spout + " has HEARD", r, x -> x.of(spout, 4), words.length);
        for (int i = 0; i < words.length; i++) {
            int place = i;
            Check.due(what + ": word " + i + " of spout " + spout, r, x -> x.of(spout, 20 + place), words[i]);
        }
    }

    private static void line(Run r, int i, int day, int what, int which, int word) {
        int[] due = {day, what, which, word};
        for (int k = 0; k < 4; k++) {
            int part = k;
            Check.due("line " + i + " of THE BOOK, " + k, r, x -> x.book(i, part), due[k]);
        }
    }

    private static void howManyDays() {
        Check.sentence("Promise 7", "DAYS go by (1 .. 60): how many WORDS were said.");
        for (int n : new int[] {1, 60}) {
            Check.due("days " + n, Run.of(1), x -> x.days(n), 0);
            Check.due("DAY", Run.of(1).days(n), x -> x.look(5), n);
        }
        for (int n : Run.beyond(1, 60)) {
            Check.due("days " + n, Run.of(1), x -> x.days(n), NONE);
            Check.due("DAY", Run.of(1).days(n), x -> x.look(5), 0);
        }
        Run wet = heard(0xff).text(0, "jet 3;slip 0;").set(0, 0, 1);
        Check.due("on one day", wet, x -> x.days(1), 3);
        Check.due("on all of them", wet, x -> x.days(60), 8);
        Check.due("only of these days", wet.days(2), x -> x.days(1), 2);
        Check.sentence("Promise 7", "NONE, and nothing is done, if one can't be, or DAY would be above 9999.");
        Run late = Run.of(1).manyDays(9939);
        Check.due("60 up to 9999", late, x -> x.days(60), 0);
        Check.due("DAY 9999", late.days(60), x -> x.look(5), 9999);
        Check.due("60 up to 10000", late.days(1), x -> x.days(60), NONE);
        Check.due("59 up to 9999", late.days(1), x -> x.days(59), 0);
        Check.due("1 behind 9999", late.days(60), x -> x.days(1), NONE);
        Check.due("back by one, one more can be", late.days(60).undo(), x -> x.days(1), 0);
        Check.due("but not two", late.days(60).undo(), x -> x.days(2), NONE);
        Check.sentence("Terms 3", "(e) DAY is one more.");
        Check.due("DAY", new Run().days(1), x -> x.look(5), 1);
    }

    private static void planDays() {
        Check.sentence("Terms 3", "(a) Line by line of A PLAN for it");
        Run first = Run.of(1, 1).text(3, "on 0 seat 0 at 0;on 1 rise 0;");
        Check.due("not before its day", first, x -> x.who(0, 1), NONE);
        Check.due("day 0", first.days(1), x -> x.who(0, 1), 0);
        Check.due("day 1", first.days(2), x -> x.who(0, 1), NONE);
        Run last = Run.of(1, 1).manyDays(999).text(3, "on 999 seat 0 at 0;");
        Check.due("day 999 begins", last, x -> x.who(0, 1), NONE);
        Check.due("day 999", last.days(1), x -> x.who(0, 1), 0);
        Run gone = Run.of(1, 1).days(1).text(3, "on 0 seat 0 at 0;").days(60);
        Check.due("a day that is gone does not come", gone, x -> x.who(0, 1), NONE);
        Check.due("a day that is undone comes again", Run.of(1, 1).text(3, "on 0 seat 0 at 0;").days(1).act(1, 0, 0).undo().undo().days(1), x -> x.who(0, 1), 0);
        Check.due("on day 1000 there is none", Run.of(1, 1).text(3, "on 999 rise 0;on 0 rise 0;").manyDays(1000).act(0, 0, 0).days(1), x -> x.who(0, 1), 0);
    }

    private static void planLineByLine() {
        Check.sentence("Terms 3", "seat: AT; rise: AT none; jar: that JAR is AT a SPOUT; mend, lead, open: MOUTH 1, 2, 0; tell: he KNOWS the WORD too.");
        Run r = Run.of(10, 0, 0, 0, 0, 0, 0, 0, 1);
        Check.due("seat, rise", r.text(3, "on 0 seat 7 at 9;on 0 rise 7;").days(1), x -> x.who(7, 1), NONE);
        Check.due("rise, seat", r.text(3, "on 0 rise 7;on 0 seat 7 at 9;").days(1), x -> x.who(7, 1), 9);
        Check.due("seat, seat", r.text(3, "on 0 seat 7 at 9;on 0 seat 7 at 8;").days(1), x -> x.who(7, 1), 8);
        Check.due("rise of one who sits nowhere", r.text(3, "on 0 rise 7;").days(1), x -> x.who(7, 1), NONE);
        Check.due("jar", r.text(3, "on 0 jar 5 at 0;on 0 jar 5 at 9;").days(1), x -> x.jar(5, 0), 9);
        Check.due("mend", r.text(3, "on 0 mend 9;").days(1), x -> x.of(9, 3), 1);
        Check.due("lead", r.text(3, "on 0 mend 9;on 0 lead 9;").days(1), x -> x.of(9, 3), 2);
        Check.due("open", r.text(3, "on 0 lead 9;on 0 open 9;").days(1), x -> x.of(9, 3), 0);
        Check.due("tell 15", r.text(3, "on 0 tell 7 15;").days(1), x -> x.who(7, 0), 32769);
        Check.due("tell 0, which he knows", r.text(3, "on 0 tell 7 0;").days(1), x -> x.who(7, 0), 1);
        Check.due("all on one day", r.text(3, "on 0 tell 0 1;".repeat(15) + "on 0 tell 0 2;").days(1), x -> x.who(0, 0), 6);
        Check.due("the plan is no deed of its own to undo", r.text(3, "on 0 tell 7 15;on 0 rise 7;").days(1), x -> x.look(12), 1);
        row("what is planned comes before what is heard", r.text(3, "on 0 seat 7 at 9;on 0 tell 7 15;").days(1), 9, 0, 15);
        Check.due("lead comes before what is said", heard(7).text(3, "on 2 lead 0;").set(0, 0, 9), x -> x.days(1), 0);
    }

    private static void weatherDays() {
        Check.sentence("Terms 3", "(b) If there is a line of WEATHER for this DAY, RAIN is as it tells.");
        Run r = Run.of(1, 1).text(2, "day 0 rain 9;day 2 rain 0;");
        Check.due("not before its day", r, x -> x.look(2), 0);
        Check.due("day 0", r.days(1), x -> x.look(2), 9);
        Check.due("day 1: as it was", r.days(2), x -> x.look(2), 9);
        Check.due("day 2", r.days(3), x -> x.look(2), 0);
        Check.due("told against the line", r.set(0, 0, 4).days(1), x -> x.look(2), 9);
        Check.due("told where there is no line", r.days(1).set(0, 0, 4).days(1), x -> x.look(2), 4);
        Run last = Run.of(1, 1).text(2, "day 999 rain 7;").manyDays(999);
        Check.due("day 999 begins", last, x -> x.look(2), 0);
        Check.due("day 999", last.days(1), x -> x.look(2), 7);
        Check.due("a line of 0 makes it dry", Run.of(1, 1).set(0, 0, 9).text(2, "day 0 rain 0;").days(1), x -> x.of(0, 5), 1);
        Check.due("a line of 1 makes it wet", Run.of(1, 1).set(2, 0, 5).text(2, "day 0 rain 1;").days(1), x -> x.of(0, 5), 0);
    }

    private static void whoHears() {
        Check.sentence("Terms 3", "(c) If RAIN is 0: SPOUT by SPOUT that is not leaded");
        Run r = Run.of(1, 7).act(0, 0, 0);
        Check.due("open", r.days(1), x -> x.of(0, 4), 2);
        Check.due("mended", r.act(3, 0, 0).days(1), x -> x.of(0, 4), 2);
        Check.due("leaded", r.act(4, 0, 0).days(1), x -> x.of(0, 4), 0);
        Check.due("opened again", r.act(4, 0, 0).act(5, 0, 0).days(1), x -> x.of(0, 4), 2);
        Check.due("in rain nothing is heard", r.set(0, 0, 1).days(1), x -> x.of(0, 4), 0);
        Check.due("nobody sits there", r.act(1, 0, 0).days(1), x -> x.of(0, 4), 0);
        Check.due("he knows nothing", Run.of(1, 0).act(0, 0, 0).days(1), x -> x.of(0, 4), 0);
        Check.due("the last of the spouts", Run.of(10, 1).act(0, 0, 9).days(1), x -> x.of(9, 4), 1);
        Check.sentence("Terms 3", "of the SITTERS AT it, one behind the other, the WORDS he KNOWS (the least first) that it has not HEARD come behind HEARD");
        Run two = Run.of(1, 0b1000_0000_0000_0110, 0b0111).act(0, 0, 0).act(0, 1, 0).text(0, "hears 9;").days(1);
        row("sitter by sitter", two, 0, 1, 2, 15, 0);
        row("each once", two.days(5), 0, 1, 2, 15, 0);
        row("seated later, still the least sitter first", Run.of(1, 2, 4, 1).act(0, 2, 0).act(0, 1, 0).act(0, 0, 0).days(1), 0, 1, 2, 0);
        row("spout by spout", Run.of(2, 2, 4).act(0, 0, 1).act(0, 1, 0).days(1), 0, 2);
    }

    private static void howManyAreHeard() {
        Check.sentence("Terms 3", "hears of each SITTER at most (asked once for each SITTER ahead), while it has fewer than 20");
        for (int hears = 0; hears <= 9; hears++) {
            Check.due("hears " + hears, Run.of(1, 0xffff).act(0, 0, 0).text(0, "hears " + hears + ";").days(1), x -> x.of(0, 4), hears);
        }
        Check.due("fewer are there", Run.of(1, 3).act(0, 0, 0).text(0, "hears 9;").days(1), x -> x.of(0, 4), 2);
        Check.due("of each sitter", Run.of(1, 0xff, 0xff00).act(0, 0, 0).act(0, 1, 0).text(0, "hears 3;").days(1), x -> x.of(0, 4), 6);
        row("what it has HEARD does not count", Run.of(1, 3, 0xff).act(0, 0, 0).act(0, 1, 0).text(0, "hears 2;").days(1), 0, 0, 1, 2, 3);
        // Were it asked word by word, it would hear one alone.
        row("asked ahead", Run.of(1, 0xff).act(0, 0, 0).text(0, "hears 3-heard;").days(1), 0, 0, 1, 2);
        row("asked for each sitter", Run.of(1, 3, 0xf0).act(0, 0, 0).act(0, 1, 0).text(0, "hears 3-heard;").days(1), 0, 0, 1, 4);
        Check.due("all sixteen words", Run.of(1, 0xff, 0xff00).act(0, 0, 0).act(0, 1, 0).text(0, "hears 8;").days(1), x -> x.of(0, 4), 16);
        Check.due("no more come", Run.of(1, 0xff, 0xff00).act(0, 0, 0).act(0, 1, 0).text(0, "hears 8;").days(60), x -> x.of(0, 4), 16);
        Check.due("word is 0 when it is asked", Run.of(1, 0xff).act(0, 0, 0).text(0, "hears 1+word;").days(1), x -> x.of(0, 4), 1);
        Check.due("eight sitters", Run.of(1, 1, 2, 4, 8, 16, 32, 64, 128).act(0, 0, 0).act(0, 1, 0).act(0, 2, 0).act(0, 3, 0).act(0, 4, 0).act(0, 5, 0)
            .act(0, 6, 0).act(0, 7, 0).days(1), x -> x.of(0, 4), 8);
    }

    private static void dryDays() {
        Check.sentence("Terms 3", "DRY is one more (999 at most; a leaded one, too).");
        for (int deed = 3; deed <= 5; deed++) {
            Run r = Run.of(2).act(deed, 1, 0);
            Check.due("one more", r.days(1), x -> x.of(1, 5), 1);
            Check.due("998 and one", r.set(2, 1, 998).days(1), x -> x.of(1, 5), 999);
            Check.due("999 and one", r.set(2, 1, 999).days(1), x -> x.of(1, 5), 999);
            Check.due("990 and sixty", r.set(2, 1, 990).days(60), x -> x.of(1, 5), 999);
            Check.sentence("Terms 3", "DRY of all is 0.");
            Check.due("rain", r.set(2, 1, 999).set(0, 0, 1).days(1), x -> x.of(1, 5), 0);
            Check.sentence("Terms 3", "DRY is one more (999 at most; a leaded one, too).");
        }
        Check.due("hears is asked before it", Run.of(1, 0xff).act(0, 0, 0).text(0, "hears 1+dry;").days(1), x -> x.of(0, 4), 1);
        Check.due("jet is asked before it is 0", heard(0xff).text(0, "jet dry;").set(0, 0, 1), x -> x.days(1), 2);
    }

    private static void whoSays() {
        Check.sentence("Terms 3", "(d) If RAIN is above 0");
        Check.due("RAIN 0", heard(7).set(0, 0, 0), x -> x.days(1), 0);
        Check.due("RAIN 1", heard(7).set(0, 0, 1), x -> x.days(1), 3);
        Check.due("RAIN 9", heard(7).set(0, 0, 9), x -> x.days(1), 3);
        Check.sentence("Terms 3", "SPOUT by SPOUT with MOUTH 0, or 1 while RAIN is 5 at least");
        for (int rain = 1; rain <= 9; rain++) {
            Run r = heard(7).set(0, 0, rain);
            Check.due("open in rain " + rain, r, x -> x.days(1), 3);
            Check.due("mended in rain " + rain, r.act(3, 0, 0), x -> x.days(1), rain < 5 ? 0 : 3);
            Check.due("leaded in rain " + rain, r.act(4, 0, 0), x -> x.days(1), 0);
            row("a leaded one keeps all in rain " + rain, r.act(4, 0, 0).days(1), 0, 0, 1, 2);
        }
        Check.due("in the dry nothing is said", heard(7), x -> x.days(1), 0);
        Check.due("by WEATHER of that day", heard(7).act(3, 0, 0).set(0, 0, 9).text(2, "day 2 rain 4;"), x -> x.days(1), 0);
        Check.due("by WEATHER of that day", heard(7).act(3, 0, 0).set(0, 0, 4).text(2, "day 2 rain 5;"), x -> x.days(1), 3);
    }

    private static void howManyAreSaid() {
        Check.sentence("Terms 3", "jet (asked ahead) of its WORDS, or all, if there are fewer, the first ones of HEARD, are said, one behind the other");
        for (int jet = 0; jet <= 9; jet++) {
            Run r = heard(0xffff).text(0, "jet " + jet + ";slip 0;").set(0, 0, 1);
            Check.due("jet " + jet + " of 16", r, x -> x.days(1), jet);
            Check.due("left", r.days(1), x -> x.of(0, 4), 16 - jet);
            Check.due("the first that is left", r.days(1), x -> x.of(0, 20), jet);
            Check.due("jet " + jet + " of 5", heard(31).text(0, "jet " + jet + ";slip 0;").set(0, 0, 1), x -> x.days(1), Math.min(jet, 5));
        }
        Check.due("jet of none", Run.of(1).set(0, 0, 9), x -> x.days(1), 0);
        // Were it asked word by word, two would be said.
        Check.due("asked ahead", heard(7).text(0, "jet heard;").set(0, 0, 1), x -> x.days(1), 3);
        Check.due("word is 0 when it is asked", heard(0xff).text(0, "jet 1+word;").set(0, 0, 1), x -> x.days(1), 1);
        row("nothing is left", heard(7).set(0, 0, 1).days(1), 0);
        Check.sentence("Terms 3", "SAID is one more");
        Check.due("SAID", heard(0xff).set(0, 0, 1).days(1), x -> x.look(3), 8);
        Check.due("SAID goes on", heard(0xff).text(0, "jet 3;").set(0, 0, 1).days(2), x -> x.look(3), 6);
        Check.sentence("Terms 3", "What is said is HEARD no more at once.");
        row("so it can be heard again", heard(3).set(0, 0, 1).days(1).set(0, 0, 0).days(1), 0, 0, 1);
    }

    private static void slipsAskedThen() {
        Check.sentence("Terms 3", "slip is asked (HEARD as it is then)");
        Run r = heard(0b10010010).set(0, 0, 1).act(2, 0, 0);
        // The words 1, 4 and 7, asked at 3, 2 and 1 heard.
        int[][] due = {{3, 0b10010100}, {2, 0b10100010}, {1, 0b100010010}, {0, 0b10010010}, {4, 0b10010010}};
        for (int[] d : due) {
            Check.due("slip at " + d[0] + " heard", r.text(0, "jet 9;slip 1000 when heard=" + d[0] + ";slip 0;").days(1), x -> x.jar(0, 1), d[1]);
        }
        Check.due("asked for the word", r.text(0, "jet 9;slip 1000 when word=4;slip 0;").days(1), x -> x.jar(0, 1), 0b10100010);
        Check.due("not for the one it becomes", r.text(0, "jet 9;slip 1000 when word=5;slip 0;").days(1), x -> x.look(4), 0);
        Check.due("day is this day", r.text(0, "jet 9;slip 1000 when day=2;slip 0;").days(1), x -> x.look(4), 3);
    }

    /** The state before a draw whose highest 24 bits are told. */
    private static int before(int bits) {
        int inverse = 1;
        for (int i = 0; i < 6; i++) {
            inverse *= 2 - 1664525 * inverse;
        }
        return ((bits << 8) - 1013904223) * inverse;
    }

    private static void draws() {
        Check.sentence("Terms", "it becomes 1664525 times itself + 1013904223 (ints, which wrap), then it is its highest 24 bits (without sign) modulo m.");
        int[][] due = {{0, 0}, {999, 999}, {1000, 0}, {8388607, 607}, {8388608, 608}, {16777215, 215}};
        for (int[] d : due) {
            Run r = heard(1).set(0, 0, 1).then(x -> x.state(before(d[0])));
            Check.due("STATE then", r.days(1), x -> x.look(7), d[0] << 8);
            Check.sentence("Terms 3", "a DRAW of 1000: below slip it is the next WORD (0 behind 15), WRONG is one more");
            Check.due("a draw of " + d[1] + ", slip so much", r.text(0, "slip " + d[1] + ";").days(1), x -> x.look(4), 0);
            Check.due("a draw of " + d[1] + ", slip one more", r.text(0, "slip " + (d[1] + 1) + ";").days(1), x -> x.look(4), 1);
            Check.sentence("Terms", "then it is its highest 24 bits (without sign) modulo m.");
        }
        for (int state : new int[] {Integer.MIN_VALUE, -1, 0, 1, Integer.MAX_VALUE}) {
            Check.due("STATE from " + state, heard(1).set(0, 0, 1).then(x -> x.state(state)).days(1), x -> x.look(7), 1664525 * state + 1013904223);
        }
        for (int slip : new int[] {0, 1000}) {
            Run r = heard(7).text(0, "jet 9;slip " + slip + ";").set(0, 0, 1).then(x -> x.state(0)).days(1);
            int s = 0;
            for (int i = 0; i < 3; i++) {
                s = 1664525 * s + 1013904223;
            }
            Check.due("a draw for each word, slip " + slip, r, x -> x.look(7), s);
            Check.due("WRONG", r, x -> x.look(4), slip == 0 ? 0 : 3);
        }
        Check.due("no draw where nothing is said", Run.of(1).set(0, 0, 9).then(x -> x.state(5)).days(60), x -> x.look(7), 5);
        Check.due("no draw in the dry", heard(1).then(x -> x.state(5)).days(60), x -> x.look(7), 5);
    }

    private static void theNextWord() {
        Check.sentence("Terms 3", "below slip it is the next WORD (0 behind 15)");
        for (int w = 0; w < 16; w++) {
            Run r = heard(1 << w).text(0, "slip 1000;").set(0, 0, 1).act(2, 0, 0).days(1);
            Check.due("the word behind " + w, r, x -> x.jar(0, 1), 1 << (w == 15 ? 0 : w + 1));
            line(r, 1, 2, 1, 0, w == 15 ? 0 : w + 1);
        }
    }

    private static void jars() {
        Check.sentence("Terms 3", "it is CAUGHT in each JAR AT it");
        Run r = heard(0b1000_0000_0000_0001).set(0, 0, 1).then(x -> x.spout(0, 0, 0));
        Check.due("no jar", r.days(1), x -> x.jar(0, 1), 0);
        Run all = r;
        for (int j = 0; j < 6; j++) {
            all = all.act(2, j, 0);
        }
        for (int j = 0; j < 6; j++) {
            int jar = j;
            Check.due("jar " + j, all.days(1), x -> x.jar(jar, 1), 0b1000_0000_0000_0001);
            Check.due("jar " + j + " at another", all.act(2, j, 1).days(1), x -> x.jar(jar, 1), 0);
        }
        Check.due("what it caught stays in it", all.days(1).set(3, 0, 2).set(0, 0, 0).days(1).set(0, 0, 1).days(1), x -> x.jar(5, 1), 0b1000_0000_0000_0011);
        Check.due("caught twice is caught", all.days(1).set(0, 0, 0).days(1).set(0, 0, 1).days(1), x -> x.jar(5, 1), 0b1000_0000_0000_0001);
        Check.due("all words", heard(0xffff).text(0, "jet 9;slip 0;").act(2, 5, 0).set(0, 0, 1).days(2), x -> x.jar(5, 1), 0xffff);
    }

    private static void waiting() {
        Check.sentence("Terms 3", "When all have said theirs: SPOUT by SPOUT, what waits (as it was said) comes behind HEARD of the one it is led into");
        Run chain = Run.of(3, 1, 2, 4).act(0, 0, 0).act(0, 1, 1).act(0, 2, 2).text(0, "jet 9;slip 0;").days(1).set(0, 0, 1);
        Run led = chain.text(1, "spout 0 into 1;spout 1 into 2;").days(1);
        row("one step a day", led, 0);
        row("one step a day", led, 1, 0);
        row("one step a day", led, 2, 1);
        Check.due("nothing is said twice", led, x -> x.look(3), 3);
        row("behind what is still there", chain.text(0, "jet 0 when stone=1;jet 9;slip 0;").text(1, "spout 0 into 1;spout 2 into 1;").days(1), 1, 1, 0, 2);
        row("as it was said", chain.text(0, "jet 9;slip 1000;").text(1, "spout 0 into 1;").days(1), 1, 1);
        Run round = chain.text(1, "spout 0 into 1;spout 1 into 2;spout 2 into 0;").days(1);
        row("a round", round, 0, 2);
        row("a round", round, 1, 0);
        row("a round, three days", round.days(2), 0, 0);
        Check.sentence("Terms 3", "has the SPOUT a gutter, it waits for that one.");
        row("without a gutter it is gone", chain.days(1), 1);
        row("of several lines the last", chain.text(1, "spout 0 into 1;spout 0 into 2;").days(1), 1);
        row("of several lines the last", chain.text(1, "spout 0 into 1;spout 0 into 2;").days(1), 2, 0);
    }

    private static void ledInto() {
        Check.sentence("Terms 3", "if that has not HEARD it, has fewer than 20 and is not leaded.");
        Run same = Run.of(3, 3, 2, 3).act(0, 0, 0).act(0, 1, 1).act(0, 2, 2).days(1).set(0, 0, 1)
            .text(0, "jet 0 when stone=1;jet 9;slip 0;").text(1, "spout 0 into 1;spout 2 into 1;");
        row("what it has HEARD does not come", same.days(1), 1, 1, 0);
        Check.due("nor into THE BOOK", same.days(1), x -> x.look(6), 5 + 4 + 1);
        row("a leaded one takes nothing", same.act(4, 1, 0).days(1), 1, 1);
        row("a mended one takes it", same.act(3, 1, 0).days(1), 1, 1, 0);
        Check.due("it is said all the same", same.act(4, 1, 0), x -> x.days(1), 4);
        Run swap = Run.of(2, 1, 1).act(0, 0, 0).act(0, 1, 1).days(1).set(0, 0, 1).text(0, "slip 0;").text(1, "spout 0 into 1;spout 1 into 0;").days(1);
        row("what was said is HEARD no more, so it comes", swap, 0, 0);
        row("what was said is HEARD no more, so it comes", swap, 1, 0);
        tenSayNine();
        Run all = Run.of(2, 0xffff).act(0, 0, 0).text(0, "hears 9;jet 9;slip 0;").days(2).set(0, 0, 1).text(1, "spout 0 into 1;")
            .text(0, "jet 9 when stone=0;jet 0;slip 0;").days(2);
        row("all sixteen", all, 1, 0, 1, 2, 3, 4, 5, 6, 7, 8, 9, 10, 11, 12, 13, 14, 15);
    }

    /** As many words wait at once as ever can: nine of each of ten spouts, in a round. */
    private static void tenSayNine() {
        Run r = Run.of(10, 0b1_1111_1111).text(0, "hears 9;jet 9;slip 1000 when lean=90;slip 0;")
            .text(1, "spout0into1;spout1into2;spout2into3;spout3into4;spout4into5;spout5into6;spout6into7;spout7into8;spout8into9;spout9into0;");
        for (int i = 0; i < 10; i++) {
            r = r.act(0, 0, i).days(1);
        }
        Run rain = r.set(0, 0, 1).days(1);
        Check.due("nine of each of ten", rain.last(), 90);
        row("the last spout says all wrong", rain, 0, 1, 2, 3, 4, 5, 6, 7, 8, 9);
        row("the last that waits for it", rain, 9, 0, 1, 2, 3, 4, 5, 6, 7, 8);
        Check.due("in thought, too", r.set(0, 0, 1), x -> x.goes(1, 2), 90);
    }

    private static void theBook() {
        Check.sentence("Terms 3", "DAY, what (0 heard, 1 said, 2 led on), which (the SPOUT; 2: the one into which), the WORD (1: as it was said; 0, 2: that came).");
        Run r = Run.of(10, 1 << 15).act(0, 0, 9).text(0, "slip 1000;").text(1, "spout 9 into 8;").days(1).set(0, 0, 1).days(1);
        line(r, 0, 0, 0, 9, 15);
        line(r, 1, 1, 1, 9, 0);
        line(r, 2, 1, 2, 8, 0);
        Check.due("lines", r, x -> x.look(6), 3);
        Check.sentence("Promise 16", "Of line i of THE BOOK what 0 DAY, 1 what, 2 which, 3 the WORD. NONE if there is none such, or another what.");
        Check.due("line 3", r, x -> x.book(3, 0), NONE);
        Check.due("line -1", r, x -> x.book(-1, 0), NONE);
        Check.due("line 150", r, x -> x.book(150, 0), NONE);
        Check.due("what 4", r, x -> x.book(0, 4), NONE);
        Check.due("what -1", r, x -> x.book(0, -1), NONE);
        Check.due("by hand nothing comes", r.act(0, 0, 1).act(2, 0, 0).act(3, 0, 0).act(7, 0, 0), x -> x.look(6), 3);
        Run late = Run.of(1, 1).manyDays(9998).act(0, 0, 0).days(1);
        line(late, 0, 9998, 0, 0, 0);
    }

    /** Eight spouts hear nine words on the first day and seven on the second: 72 and 56 lines. */
    private static Run eightHear() {
        Run r = Run.of(10, 0xffff, 0xffff, 0xffff, 0xffff, 0xffff, 0xffff, 0xffff, 0xffff).text(0, "hears 9;jet 9;slip 0;");
        for (int i = 0; i < 8; i++) {
            r = r.act(0, i, i);
        }
        return r;
    }

    private static void theBookIsFull() {
        Check.sentence("Terms 3", "THE BOOK (150 lines; no more then)");
        Run r = eightHear().days(2).set(0, 0, 1);
        Check.due("128 lines", r, x -> x.look(6), 128);
        Run full = r.text(0, "jet 3;slip 0;").days(1);
        Check.due("24 are said", full, x -> x.look(3), 24);
        Check.due("22 of them are written", full, x -> x.look(6), 150);
        line(full, 149, 2, 1, 7, 0);
        Check.due("line 150", full, x -> x.book(150, 0), NONE);
        Check.due("days go on", full, x -> x.days(1), 24);
        line(full.days(1), 149, 2, 1, 7, 0);
        Check.due("no more", full.days(9), x -> x.look(6), 150);
        Run just = r.text(0, "jet 2 when stone=1;jet 3;slip 0;").days(1);
        Check.due("just 150", just, x -> x.look(6), 150);
        Check.due("just 22 said", just, x -> x.look(3), 22);
        Run almost = r.text(0, "jet 2 when lean<30;jet 3;slip 0;").days(1);
        Check.due("149", almost, x -> x.look(6), 149);
        Check.due("line 149 is not there", almost, x -> x.book(149, 0), NONE);
        Run back = full.undo();
        Check.due("undone", back, x -> x.look(6), 128);
        Check.due("line 128 is gone", back, x -> x.book(128, 0), NONE);
        line(back.text(0, "jet 1;slip 1000;").days(1), 128, 2, 1, 0, 1);
        Check.due("image of a full one", full.image(true).undo().undo().undo().image(false), x -> x.look(6), 150);
        line(full.image(true).undo().text(0, "jet 1;slip 1000;").days(1).image(false), 128, 2, 1, 0, 0);
    }

    private static void goesFor() {
        Check.sentence("Terms 4", "GOES for n (1 .. 60) DAYS: SAID, WRONG, CAUGHT of a JAR (a set), how many WORDS SPOUTS have HEARD then in all.");
        Run r = heard(0xff).text(0, "jet 1;slip 1000 when word=7;slip 0;").set(0, 0, 1).act(2, 5, 0).days(2);
        Check.due("SAID, 1 day", r, x -> x.goes(1, 0), 3);
        Check.due("SAID, 60 days", r, x -> x.goes(60, 0), 8);
        Check.due("WRONG, 5 days", r, x -> x.goes(5, 1), 0);
        Check.due("WRONG, 6 days", r, x -> x.goes(6, 1), 1);
        Check.due("HEARD, 1 day", r, x -> x.goes(1, 2), 5);
        Check.due("HEARD, 60 days", r, x -> x.goes(60, 2), 0);
        Check.due("CAUGHT of 5", r, x -> x.goes(1, 15), 7);
        Check.due("CAUGHT of 5", r, x -> x.goes(60, 15), 0b1_0111_1111);
        Check.due("CAUGHT of 0", r, x -> x.goes(60, 10), 0);
        for (int n : Run.beyond(1, 60)) {
            Check.due("goes " + n, r, x -> x.goes(n, 0), NONE);
        }
        for (int what : new int[] {-1, 3, 9, 16, Integer.MIN_VALUE, Integer.MAX_VALUE}) {
            Check.due("goes what " + what, r, x -> x.goes(1, what), NONE);
        }
        Check.due("a bare cathedral", new Run(), x -> x.goes(60, 2), 0);
        Check.due("HEARD in all", eightHear(), x -> x.goes(2, 2), 128);
        Check.due("a plan and weather go, too", Run.of(2, 7).text(3, "on 0 seat 0 at 1;on 1 jar 3 at 1;").text(2, "day 1 rain 2;"), x -> x.goes(2, 13), 3);
        goesByTheLaw();
        Check.due("the day goes on", Run.of(1, 0xffff).act(0, 0, 0).text(0, "hears day;"), x -> x.goes(4, 2), 6);
    }

    /** Each fact that the law can ask for is in thought what it would be in truth, of the first spout and of the tenth. */
    private static void goesByTheLaw() {
        String[] facts = {"stone", "side", "lean", "mouth", "rain", "heard-4", "dry", "3+word", "day"};
        int[] due = {2, 3, 4, 1, 7, 8, 5, 3, 2};
        for (int at : new int[] {0, 9}) {
            Run r = new Run().times(at, x -> x.spout(0, 0, 0)).then(x -> x.spout(2, 3, 4), x -> x.sitter(0xffff)).act(0, 0, at).act(3, at, 0)
                .text(0, "hears 6;").days(2).set(2, at, 5).set(0, 0, 7);
            for (int i = 0; i < facts.length; i++) {
                Run told = r.text(0, "jet " + facts[i] + ";");
                Check.due("jet " + facts[i] + " in thought", told, x -> x.goes(1, 0), due[i]);
                Check.due("jet " + facts[i] + " in truth", told, x -> x.days(1), due[i]);
            }
        }
    }

    private static void goesSlips() {
        Check.sentence("Terms 4", "no DRAWS: it slips, if slip is 500 at least");
        Run r = heard(1).set(0, 0, 1).act(2, 0, 0);
        int[][] due = {{0, 0}, {499, 0}, {500, 1}, {1000, 1}};
        for (int[] d : due) {
            Run told = r.text(0, "slip " + d[0] + ";");
            Check.due("WRONG, slip " + d[0], told, x -> x.goes(1, 1), d[1]);
            Check.due("CAUGHT, slip " + d[0], told, x -> x.goes(1, 10), 1 << d[1]);
        }
        Run drawn = r.text(0, "slip 500;").then(x -> x.state(before(999)));
        Check.due("STATE does not matter", drawn, x -> x.goes(1, 1), 1);
        Check.due("but to a true day it does", drawn.days(1), x -> x.look(4), 0);
    }

    private static void goesStays() {
        Check.sentence("Terms 4", "IN THOUGHT (nothing of it stays;");
        Run r = eightHear().days(2).set(0, 0, 1).then(x -> x.state(9)).days(1).set(0, 0, 1);
        for (int what : new int[] {0, 1, 2, 10, 15}) {
            Check.quiet("goes 60, " + what, r, x -> x.goes(60, what), r.ask(x -> x.goes(60, what)));
        }
        Check.due("the same in truth, if nothing is drawn", r, x -> x.goes(3, 0), r.days(3).ask(x -> x.look(3)));
        // The document names no end for these days, unlike for those of days().
        Check.due("behind DAY 9999", Run.of(1, 7).act(0, 0, 0).manyDays(9999), x -> x.goes(60, 2), 3);
    }
}
