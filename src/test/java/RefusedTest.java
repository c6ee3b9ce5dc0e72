import java.util.Arrays;

/** Every call that is refused, and every one that only asks, leaves all as it was: answer and state both. */
public final class RefusedTest {
    private static final int NO_SUCH = SpoutNews.NONE - 1;

    public static void main(String[] args) {
        Run busy = busy();
        tellings(busy);
        acts(busy);
        daysAndTape(busy);
        textsThatFail(busy);
        sights(busy);
        thoughts(busy);
        thoughtsTold(busy);
        whenAllIsFull();
        whenThereIsNothing();
        askingChangesNothing(busy);
        Check.end("RefusedTest");
    }

    /** Four spouts and three sitters, some of everything told, an image, six things to undo, eight bytes on the tape. */
    static Run busy() {
        Run r = Run.of(4, 0b1011, 0b110, 0xffff).then(x -> x.state(77)).set(2, 2, 500)
            .text(0, "hears 3;jet 2;slip 600 when word=1;").text(1, "spout 0 into 1;spout 1 into 2;")
            .text(2, "day 3 rain 4;day 4 rain 0;").text(3, "on 9 rise 0;on 1 jar 2 at 0;")
            .act(0, 0, 0).act(0, 1, 1).act(0, 2, 3).act(2, 0, 0).days(3)
            .then(x -> x.seat(0, 1), x -> x.seat(0, 2), x -> x.seat(1, 2), x -> x.quarrel(1, 2), x -> x.quarrel(2, 3))
            .then(x -> Run.bit(x.latin(3, 4)), x -> Run.bit(x.latin(4, 3)), x -> Run.bit(x.mason(0, false, 3210)), x -> Run.bit(x.mason(2, true, 2031)))
            .then(x -> x.drought(0), x -> x.drought(3), x -> x.chapter(9), x -> x.chapter(8), x -> x.chapter(7));
        return r.image(true).days(2).text(2, "day 5 rain").tape("hears 1;").act(4, 3, 0).act(6, 0, 9);
    }

    private static void refuse(String call, Run run, Run.Call asked) {
        Check.quiet(call, run, asked, SpoutNews.NONE);
    }

    private static void refuseBit(String call, Run run, Run.Call asked) {
        Check.quiet(call, run, asked, 0);
    }

    private static void tellings(Run r) {
        Check.sentence("Promise 3", "NONE if one can't be, or there are ten.");
        for (int bad : Run.beyond(0, 5)) {
            refuse("spout stone " + bad, r, x -> x.spout(bad, 0, 0));
        }
        for (int bad : Run.beyond(0, 3)) {
            refuse("spout side " + bad, r, x -> x.spout(0, bad, 0));
        }
        for (int bad : Run.beyond(0, 99)) {
            refuse("spout lean " + bad, r, x -> x.spout(0, 0, bad));
        }
        Check.sentence("Promise 4", "NONE if one can't be, or there are eight.");
        for (int bad : new int[] {-1, 65536, 65537, Integer.MIN_VALUE, Integer.MAX_VALUE}) {
            refuse("sitter " + bad, r, x -> x.sitter(bad));
        }
        Check.sentence("Promise 5", "false if one can't be, or another what.");
        for (int bad : Run.beyond(0, 3)) {
            refuseBit("set what " + bad, r, x -> Run.bit(x.set(bad, 0, 0)));
        }
        for (int bad : Run.beyond(0, 9)) {
            refuseBit("set RAIN " + bad, r, x -> Run.bit(x.set(0, 0, bad)));
        }
        for (int bad : Run.beyond(0, 99)) {
            refuseBit("set LEAN " + bad, r, x -> Run.bit(x.set(1, 0, bad)));
        }
        for (int bad : Run.beyond(0, 999)) {
            refuseBit("set DRY " + bad, r, x -> Run.bit(x.set(2, 0, bad)));
        }
        for (int bad : Run.beyond(0, 65535)) {
            refuseBit("set KNOWS " + bad, r, x -> Run.bit(x.set(3, 0, bad)));
        }
        for (int bad : Run.beyond(0, 3)) {
            refuseBit("set LEAN of " + bad, r, x -> Run.bit(x.set(1, bad, 0)));
            refuseBit("set DRY of " + bad, r, x -> Run.bit(x.set(2, bad, 0)));
        }
        for (int bad : Run.beyond(0, 2)) {
            refuseBit("set KNOWS of " + bad, r, x -> Run.bit(x.set(3, bad, 0)));
        }
    }

    private static void acts(Run r) {
        Check.sentence("Promise 6", "false if it can't be, or another what.");
        for (int bad : Run.beyond(0, 7)) {
            refuseBit("act what " + bad, r, x -> Run.bit(x.act(bad, 0, 0)));
        }
        for (int what : new int[] {0, 1, 6}) {
            for (int bad : Run.beyond(0, 2)) {
                refuseBit("act " + what + " of sitter " + bad, r, x -> Run.bit(x.act(what, bad, 0)));
            }
        }
        for (int what : new int[] {2, 7}) {
            for (int bad : Run.beyond(0, 5)) {
                refuseBit("act " + what + " of jar " + bad, r, x -> Run.bit(x.act(what, bad, 0)));
            }
        }
        for (int what : new int[] {3, 4, 5}) {
            for (int bad : Run.beyond(0, 3)) {
                refuseBit("act " + what + " of spout " + bad, r, x -> Run.bit(x.act(what, bad, 0)));
            }
        }
        for (int what : new int[] {0, 2}) {
            for (int bad : Run.beyond(0, 3)) {
                refuseBit("act " + what + " at spout " + bad, r, x -> Run.bit(x.act(what, 0, bad)));
            }
        }
        for (int bad : Run.beyond(0, 15)) {
            refuseBit("to tell word " + bad, r, x -> Run.bit(x.act(6, 0, bad)));
        }
    }

    private static void daysAndTape(Run r) {
        Check.sentence("Promise 7", "NONE, and nothing is done, if one can't be, or DAY would be above 9999.");
        for (int bad : Run.beyond(1, 60)) {
            refuse("days " + bad, r, x -> x.days(bad));
        }
        Run late = Run.of(1, 3).act(0, 0, 0).manyDays(9950);
        refuse("days 50 of DAY 9950", late, x -> x.days(50));
        refuse("days 60 of DAY 9950", late, x -> x.days(60));
        refuse("days 1 of DAY 9999", late.days(49), x -> x.days(1));
        Check.sentence("Promise 8", "NONE, and nothing comes, if there would be more than 400.");
        for (int length : new int[] {381, 399, 400}) {
            refuse("feed behind " + length, Run.of(0).tape(" ".repeat(length)), x -> x.feed(1, 2, 3, 4, 5));
        }
        Check.sentence("Promise 9", "false, changing nothing, if it has not so many, or n is below 0.");
        for (int bad : new int[] {9, 20, 400, 401, -1, Integer.MIN_VALUE, Integer.MAX_VALUE}) {
            refuseBit("end " + bad + " of 8 bytes", r, x -> Run.bit(x.end(bad)));
        }
        refuseBit("end 401 of 400 bytes", Run.of(0).tape(" ".repeat(400)), x -> Run.bit(x.end(401)));
        refuseBit("end 1 of none", Run.of(0), x -> Run.bit(x.end(1)));
    }

    /** A text that fails changes what fault() tells and empties the tape, and nothing else. */
    private static void textsThatFail(Run r) {
        Check.sentence("Promise 10", "NONE: no such one (fault() tells 0), or a FAULT (it stays as it was).");
        Run clean = r.then(x -> Run.bit(x.end(0))).text(0, "?");
        for (int k = 1; k < 4; k++) {
            Run failed = r.then(x -> Run.bit(x.end(0))).text(k, "?");
            Check.due("text " + k, failed.last(), SpoutNews.NONE);
            Check.due("text " + k + ": first sight that is another one", Arrays.mismatch(clean.allSeen(), failed.allSeen()), -1);
        }
        for (int bad : Run.beyond(0, 3)) {
            Run none = r.then(x -> Run.bit(x.end(0))).tape("?").then(x -> x.text(bad));
            Check.due("text " + bad, none.last(), SpoutNews.NONE);
            Check.due("fault 0 then", none, x -> x.fault(0), 0);
            Check.due("fault 1 then", none, x -> x.fault(1), SpoutNews.NONE);
            // Behind the same next text all must be the same, fault() too.
            Check.due("text " + bad + ": first sight that is another one", Arrays.mismatch(clean.allSeen(), none.text(0, "?").allSeen()), -1);
        }
    }

    private static void sights(Run r) {
        Check.sentence("Promise 11", "NONE for another what.");
        for (int bad : Run.beyond(0, 1)) {
            refuse("fault " + bad, r, x -> x.fault(bad));
        }
        Check.sentence("Promise 12", "NONE - 1 if there is none such, or another what.");
        for (int bad : Run.beyond(0, 3)) {
            Check.quiet("of spout " + bad, r, x -> x.of(bad, 0), NO_SUCH);
            Check.quiet("slip of spout " + bad, r, x -> x.of(bad, 40), NO_SUCH);
        }
        for (int bad : new int[] {-1, 9, 10, 19, 39, 56, 57, Integer.MIN_VALUE, Integer.MAX_VALUE}) {
            Check.quiet("of what " + bad, r, x -> x.of(0, bad), NO_SUCH);
        }
        Check.sentence("Promise 13", "Of a SITTER what 0 KNOWS, 1 AT (NONE). NONE - 1 if there is none such, or another what.");
        for (int bad : Run.beyond(0, 2)) {
            Check.quiet("who " + bad, r, x -> x.who(bad, 0), NO_SUCH);
        }
        for (int bad : Run.beyond(0, 1)) {
            Check.quiet("who what " + bad, r, x -> x.who(0, bad), NO_SUCH);
        }
        Check.sentence("Promise 14", "Of a JAR what 0 AT (NONE), 1 CAUGHT. NONE - 1 if there is none such, or another what.");
        for (int bad : Run.beyond(0, 5)) {
            Check.quiet("jar " + bad, r, x -> x.jar(bad, 0), NO_SUCH);
        }
        for (int bad : Run.beyond(0, 1)) {
            Check.quiet("jar what " + bad, r, x -> x.jar(0, bad), NO_SUCH);
        }
        Check.sentence("Promise 15", "NONE if there is no line, or no such DAY (0 .. 9999).");
        for (int bad : Run.beyond(0, 9999)) {
            refuse("weather " + bad, r, x -> x.weather(bad));
        }
        refuse("weather of a DAY without a line", r, x -> x.weather(9999));
        Check.sentence("Promise 16", "NONE if there is none such, or another what.");
        int lines = (int) r.ask(x -> x.look(6));
        for (int bad : Run.beyond(0, lines - 1)) {
            refuse("book line " + bad, r, x -> x.book(bad, 0));
        }
        for (int bad : Run.beyond(0, 3)) {
            refuse("book what " + bad, r, x -> x.book(0, bad));
        }
        Check.sentence("Promise 39", "NONE for another what. (STATE as it is.)");
        for (int bad : Run.beyond(0, 12)) {
            refuse("look " + bad, r, x -> x.look(bad));
        }
    }

    private static void thoughts(Run r) {
        Check.sentence("Promise 17", "NONE if one can't be, or another what.");
        for (int bad : Run.beyond(1, 60)) {
            refuse("goes n " + bad, r, x -> x.goes(bad, 0));
        }
        for (int bad : new int[] {-1, 3, 9, 16, Integer.MIN_VALUE, Integer.MAX_VALUE}) {
            refuse("goes what " + bad, r, x -> x.goes(1, bad));
        }
        Check.sentence("Promise 18", "TOLD, as a set; NONE if one can't be.");
        for (int bad : Run.beyond(0, 15)) {
            refuse("told word " + bad, r, x -> x.told(bad, 0));
        }
        for (int bad : Run.beyond(0, 3)) {
            refuse("told spout " + bad, r, x -> x.told(0, bad));
            refuse("ends spout " + bad, r, x -> x.ends(bad, 0));
            refuse("ends spout " + bad, r, x -> x.ends(bad, 1));
        }
        Check.sentence("Promise 19", "ENDS what 0 where, 1 behind how many. NONE if there is none such, or another what.");
        for (int bad : Run.beyond(0, 1)) {
            refuse("ends what " + bad, r, x -> x.ends(0, bad));
            refuse("catches " + bad, r, x -> x.catches(bad));
            refuse("parts " + bad, r, x -> x.parts(bad));
            refuse("known what " + bad, r, x -> x.known(1, bad));
            refuse("longest " + bad, r, x -> x.longest(bad));
            refuse("read what " + bad, r, x -> x.read(1, bad));
            refuse("game " + bad, r, x -> x.game(bad));
        }
        Check.sentence("Promise 22", "WAYS what 0 in how many, 1 SURE, 2 ASK (NONE: nothing told). NONE for another what.");
        for (int bad : Run.beyond(0, 2)) {
            refuse("ways " + bad, r, x -> x.ways(bad));
        }
        Check.sentence("Promise 25", "NONE if by none, there are other bits than WORDS, or another what.");
        for (int bad : Run.beyond(0, 65535)) {
            refuse("known words " + bad, r, x -> x.known(bad, 0));
            refuse("known words " + bad, r, x -> x.known(bad, 1));
        }
        Check.sentence("Promise 27", "NONE if there is none such, or never.");
        for (int bad : Run.beyond(-1, 15)) {
            refuse("again " + bad, r, x -> x.again(bad));
        }
        Check.sentence("Promise 29", "how many offers (i NONE). NONE if there is none such.");
        for (int bad : Run.beyond(-1, 3)) {
            refuse("keeps " + bad, r, x -> x.keeps(bad));
        }
        Check.sentence("Promise 30", "SURMISE; NONE if one can't be.");
        for (int bad : Run.beyond(0, 1000)) {
            refuse("surmise p " + bad, r, x -> x.surmise(bad, 0, 0));
        }
        for (int bad : Run.beyond(0, 20)) {
            refuse("surmise n " + bad, r, x -> x.surmise(500, bad, 0));
            refuse("surmise m " + bad, r, x -> x.surmise(500, 0, bad));
        }
        Check.sentence("Promise 33", "LEANS; NONE if c can't be.");
        for (int bad : Run.beyond(1, 99)) {
            refuse("leans " + bad, r, x -> x.leans(bad));
        }
        Check.sentence("Promise 35", "NONE if k can't be (more than chapters), or another what.");
        for (int bad : Run.beyond(1, 3)) {
            refuse("read k " + bad, r, x -> x.read(bad, 0));
            refuse("read k " + bad, r, x -> x.read(bad, 1));
        }
    }

    private static void thoughtsTold(Run r) {
        Check.sentence("Promise 21", "NONE if one can't be, or there are twelve.");
        for (int bad : new int[] {-2, 3, Integer.MIN_VALUE, Integer.MAX_VALUE}) {
            refuse("seat of sitter " + bad, r, x -> x.seat(bad, 0));
        }
        for (int bad : Run.beyond(0, 3)) {
            refuse("seat below spout " + bad, r, x -> x.seat(0, bad));
        }
        Check.sentence("Promise 23", "NONE if one can't be, or there are fourteen.");
        for (int bad : new int[] {-2, 10, Integer.MIN_VALUE, Integer.MAX_VALUE}) {
            refuse("quarrel of " + bad, r, x -> x.quarrel(bad, 0));
        }
        for (int bad : Run.beyond(0, 9)) {
            refuse("quarrel with " + bad, r, x -> x.quarrel(0, bad));
        }
        refuse("quarrel of 0 with itself", r, x -> x.quarrel(0, 0));
        refuse("quarrel of 9 with itself", r, x -> x.quarrel(9, 9));
        Check.sentence("Promise 26", "LATIN is told: true; false if one can't be.");
        for (int bad : Run.beyond(0, 15)) {
            refuseBit("latin of " + bad, r, x -> Run.bit(x.latin(bad, 0)));
            refuseBit("latin to " + bad, r, x -> Run.bit(x.latin(0, bad)));
        }
        Check.sentence("Promise 28", "its row (0 .. 3 each once, as a number of four digits): true; false if one can't be.");
        for (int bad : Run.beyond(0, 3)) {
            refuseBit("mason " + bad, r, x -> Run.bit(x.mason(bad, false, 123)));
            refuseBit("stone " + bad, r, x -> Run.bit(x.mason(bad, true, 123)));
        }
        for (int bad : new int[] {122, 124, 0, 12, 1231, 3211, 3333, 4012, 9123, 10123, 30120, -123, -3210, Integer.MIN_VALUE, Integer.MAX_VALUE}) {
            refuseBit("row " + bad, r, x -> Run.bit(x.mason(1, false, bad)));
            refuseBit("row of a stone " + bad, r, x -> Run.bit(x.mason(1, true, bad)));
        }
        Check.sentence("Promise 31", "a day more (NONE: none is then): how many; NONE if one can't be, or there are forty.");
        for (int bad : new int[] {-2, 10, Integer.MIN_VALUE, Integer.MAX_VALUE}) {
            refuse("drought " + bad, r, x -> x.drought(bad));
        }
        Check.sentence("Promise 34", "a chapter more (NONE: none is then): how many; NONE if one can't be, or there are twelve.");
        for (int bad : new int[] {-2, 0, 61, Integer.MIN_VALUE, Integer.MAX_VALUE}) {
            refuse("chapter " + bad, r, x -> x.chapter(bad));
        }
    }

    private static void whenAllIsFull() {
        Run full = Run.of(10, 1, 2, 4, 8, 16, 32, 64, 128).then(x -> x.feed(1, 2, 3, 4, 5)).image(true)
            .times(12, x -> x.seat(7, 9)).times(14, x -> x.quarrel(9, 8)).times(40, x -> x.drought(9)).times(12, x -> x.chapter(60))
            .times(19, x -> x.feed(-1, -1, -1, -1, -1)).days(60);
        Check.sentence("Promise 3", "NONE if one can't be, or there are ten.");
        refuse("an eleventh spout", full, x -> x.spout(0, 0, 0));
        Check.sentence("Promise 4", "NONE if one can't be, or there are eight.");
        refuse("a ninth sitter", full, x -> x.sitter(0));
        Check.sentence("Promise 8", "NONE, and nothing comes, if there would be more than 400.");
        refuse("feed behind 400", full, x -> x.feed(0, 0, 0, 0, 0));
        Check.sentence("Promise 21", "NONE if one can't be, or there are twelve.");
        refuse("a thirteenth seat", full, x -> x.seat(0, 0));
        refuse("the same seat again", full, x -> x.seat(7, 9));
        Check.sentence("Promise 23", "NONE if one can't be, or there are fourteen.");
        refuse("a fifteenth quarrel", full, x -> x.quarrel(0, 1));
        refuse("the same quarrel again", full, x -> x.quarrel(9, 8));
        Check.sentence("Promise 31", "or there are forty.");
        refuse("a forty-first day", full, x -> x.drought(0));
        Check.sentence("Promise 34", "or there are twelve.");
        refuse("a thirteenth chapter", full, x -> x.chapter(1));
    }

    private static void whenThereIsNothing() {
        Run bare = new Run();
        Check.sentence("Promise 37", "UNDO: true; false if there is nothing.");
        refuseBit("undo", bare, x -> Run.bit(x.undo()));
        refuseBit("undo behind a state", busy().then(x -> x.state(1)), x -> Run.bit(x.undo()));
        Check.sentence("Promise 38", "THE IMAGE is taken (true), or gone back to (false): true; false if there is none.");
        refuseBit("image", bare, x -> Run.bit(x.image(false)));
        refuseBit("image with days to undo", Run.of(1).days(3), x -> Run.bit(x.image(false)));
        Check.sentence("Promise 36", "NONE if who begins loses, or for another what.");
        refuse("game", bare, x -> x.game(0));
        refuse("game", bare, x -> x.game(1));
        Check.sentence("Promise 35", "NONE if k can't be (more than chapters), or another what.");
        refuse("read", bare, x -> x.read(1, 0));
        Check.sentence("Promise 25", "NONE if by none");
        refuse("known", bare, x -> x.known(1, 0));
        refuse("known", bare, x -> x.known(1, 1));
        Check.sentence("Terms 1", "AT a SPOUT or none (none at first)");
        for (int what = 0; what < 7; what++) {
            int deed = what;
            refuseBit("act " + what + " where there is none", bare, x -> Run.bit(x.act(deed, 0, 0)));
        }
        refuse("seat", bare, x -> x.seat(0, 0));
        refuse("told", bare, x -> x.told(0, 0));
        refuse("ends", bare, x -> x.ends(0, 0));
        Check.quiet("of", bare, x -> x.of(0, 0), NO_SUCH);
        Check.quiet("who", bare, x -> x.who(0, 0), NO_SUCH);
        refuse("book", bare, x -> x.book(0, 0));
    }

    private static void askingChangesNothing(Run r) {
        Check.sentence("Terms 4", "IN THOUGHT (nothing of it stays;");
        Run.Call[] asked = {x -> x.goes(60, 0), x -> x.goes(60, 1), x -> x.goes(60, 2), x -> x.goes(60, 15), x -> x.told(0, 2), x -> x.ends(0, 0),
            x -> x.ends(0, 1), x -> x.catches(0), x -> x.catches(1), x -> x.ways(0), x -> x.ways(1), x -> x.ways(2), x -> x.parts(0), x -> x.parts(1),
            x -> x.known(7, 0), x -> x.known(7, 1), x -> x.again(-1), x -> x.again(3), x -> x.keeps(-1), x -> x.keeps(3), x -> x.surmise(500, 20, 20),
            x -> x.longest(0), x -> x.longest(1), x -> x.leans(99), x -> x.read(3, 0), x -> x.read(3, 1), x -> x.game(0), x -> x.game(1)};
        for (int i = 0; i < asked.length; i++) {
            Check.quiet("thought " + i, r, asked[i], r.ask(asked[i]));
        }
    }
}
