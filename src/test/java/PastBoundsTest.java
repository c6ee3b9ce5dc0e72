import java.util.Arrays;

/** What can be undone, what forgets it, and the image (promises 37 and 38). */
public final class PastBoundsTest {
    private static final int NONE = SpoutNews.NONE;

    public static void main(String[] args) {
        eachIsUndone();
        sixAreKept();
        oneDayEach();
        whatForgets();
        whatDoesNotForget();
        undoneNotTheTold();
        theImage();
        imageTakesAll();
        imageTakesTheLastOfEach();
        imageTakesTheLastLine();
        imageTakesEachRow();
        undoOfTheLastOfEach();
        imageAgain();
        imageAndUndo();
        Check.end("PastBoundsTest");
    }

    /** Three spouts, two sitters, words heard and caught, and nothing to undo. */
    private static Run base() {
        return Run.of(3, 0b110, 0xffff).act(0, 0, 0).act(0, 1, 1).act(2, 0, 0).act(3, 2, 0).text(1, "spout 0 into 1;").text(2, "day 2 rain 3;day 3 rain 0;")
            .days(3).then(x -> x.state(41));
    }

    private static void undone(String what, Run r, Run.Call done) {
        Run then = r.then(done);
        Check.due(what + " changes something", Arrays.mismatch(r.allSeen(), then.allSeen()) >= 0, true);
        Check.due(what + ": what can be undone", then, x -> x.look(12), r.ask(x -> x.look(12)) + 1);
        Check.due("undo of " + what, then, x -> Run.bit(x.undo()), 1);
        Check.due("undo of " + what + ": first sight that is another one", Arrays.mismatch(r.allSeen(), then.undo().allSeen()), -1);
    }

    private static void eachIsUndone() {
        Check.sentence("Terms 4", "UNDO: the latest DAY, SEATING, RISING, JAR, MENDING, LEADING, OPENING, TELLING, EMPTYING not undone yet goes back"
            + " (STATE, THE BOOK, too)");
        for (Run r : new Run[] {base(), base().act(1, 1, 0), base().days(5)}) {
            undone("a dry day", r, x -> x.days(1));
            undone("a seating", r, x -> Run.bit(x.act(0, 0, 2)));
            undone("a rising", r, x -> Run.bit(x.act(1, 0, 0)));
            undone("a jar", r, x -> Run.bit(x.act(2, 5, 2)));
            undone("a mending", r, x -> Run.bit(x.act(3, 0, 0)));
            undone("a leading", r, x -> Run.bit(x.act(4, 0, 0)));
            undone("an opening", r, x -> Run.bit(x.act(5, 2, 0)));
            undone("a telling", r, x -> Run.bit(x.act(6, 0, 15)));
            undone("an emptying", r, x -> Run.bit(x.act(7, 0, 0)));
        }
        Run wet = base().text(0, "jet 9;slip 500;").set(0, 0, 9).text(2, "").days(1);
        undone("a wet day", base().set(0, 0, 9), x -> x.days(1));
        undone("a wet day behind another", wet, x -> x.days(1));
        undone("a day of a plan", base().text(3, "on 3 rise 0;on 3 jar 4 at 1;on 3 lead 2;on 3 tell 0 9;"), x -> x.days(1));
        undone("what changes nothing is undone, too", base(), x -> Run.bit(x.act(5, 0, 0)));
        Check.due("STATE", base().set(0, 0, 9).days(1).undo(), x -> x.look(7), 41);
        Check.sentence("Promise 37", "UNDO: true; false if there is nothing.");
        Check.due("nothing", base(), x -> Run.bit(x.undo()), 0);
        Check.due("nothing more", base().days(1).undo(), x -> Run.bit(x.undo()), 0);
        Check.due("a bare cathedral", new Run(), x -> Run.bit(x.undo()), 0);
    }

    private static void sixAreKept() {
        Check.sentence("Terms 4", "6 are kept");
        for (int n = 0; n <= 8; n++) {
            Run r = base();
            for (int i = 0; i < n; i++) {
                r = r.act(6, 0, 3 + i);
            }
            Check.due("kept of " + n, r, x -> x.look(12), Math.min(n, 6));
            for (int i = 0; i < Math.min(n, 6); i++) {
                Check.due("undo", r, x -> Run.bit(x.undo()), 1);
                r = r.undo();
                Check.due("left", r, x -> x.look(12), Math.min(n, 6) - i - 1);
            }
            Check.due("no more", r, x -> Run.bit(x.undo()), 0);
            Check.due("KNOWS then", r, x -> x.who(0, 0), n <= 6 ? 0b110 : n == 7 ? 0b1110 : 0b11110);
        }
        Run again = base();
        for (int i = 0; i < 7; i++) {
            again = again.act(6, 0, 3 + i);
        }
        again = again.undo().undo().undo().act(6, 0, 15).act(6, 0, 14);
        Check.due("three undone, two new: five", again, x -> x.look(12), 5);
        Check.due("KNOWS", again, x -> x.who(0, 0), 0b1100_0000_0111_1110);
        Check.due("one back", again.undo(), x -> x.who(0, 0), 0b1000_0000_0111_1110);
        Check.due("three back", again.undo().undo().undo(), x -> x.who(0, 0), 0b11_1110);
        Check.due("five back", again.undo().undo().undo().undo().undo(), x -> x.who(0, 0), 0b1110);
        Check.due("six back", again.undo().undo().undo().undo().undo(), x -> Run.bit(x.undo()), 0);
    }

    private static void oneDayEach() {
        Check.sentence("Terms 4", "UNDO: the latest DAY");
        for (int n : new int[] {1, 2, 5, 6, 7, 59, 60}) {
            Run r = base().days(n);
            int kept = Math.min(n, 6);
            Check.due("days kept of " + n, r, x -> x.look(12), kept);
            for (int i = 1; i <= kept; i++) {
                r = r.undo();
                Check.due("DAY", r, x -> x.look(5), 3 + n - i);
            }
            Check.due("no more", r, x -> Run.bit(x.undo()), 0);
        }
        Run mixed = base().act(6, 0, 9).days(2).act(6, 0, 10).days(1);
        Check.due("five", mixed, x -> x.look(12), 5);
        Check.due("back by two", mixed.undo().undo(), x -> x.who(0, 0), 0b10_0000_0110);
        Check.due("back by two", mixed.undo().undo(), x -> x.look(5), 5);
        Check.due("back by five", mixed.undo().undo().undo().undo().undo(), x -> x.who(0, 0), 0b110);
        Check.due("days push out what was before", base().act(6, 0, 9).days(6).undo().undo().undo().undo().undo().undo(), x -> Run.bit(x.undo()), 0);
        Check.due("five days do not", base().act(6, 0, 9).days(5).undo().undo().undo().undo().undo(), x -> Run.bit(x.undo()), 1);
    }

    private static void whatForgets() {
        Check.sentence("Terms 4", "whatever else is told but THE LAW, GUTTERS and what is told for thought (SEATS, QUARRELS, LATIN, MASONS, DROUGHT, REIGN)"
            + " (the taking of THE IMAGE does not) forgets them.");
        Run r = base().days(3).act(6, 0, 9);
        Run[] forget = {r.then(x -> x.state(41)), r.then(x -> x.spout(0, 0, 0)), r.then(x -> x.sitter(0)), r.set(0, 0, 0), r.set(1, 0, 5), r.set(2, 0, 5),
            r.set(3, 0, 5), r.text(2, ""), r.text(2, "day 99 rain 1;"), r.text(3, ""), r.text(3, "on 99 rise 0;"), r.image(true).image(false)};
        for (int i = 0; i < forget.length; i++) {
            Check.due("what can be undone behind telling " + i, forget[i], x -> x.look(12), 0);
            Check.due("undo behind telling " + i, forget[i], x -> Run.bit(x.undo()), 0);
            Check.due("one more can be", forget[i].days(1), x -> Run.bit(x.undo()), 1);
        }
    }

    private static void whatDoesNotForget() {
        Check.sentence("Terms 4", "but THE LAW, GUTTERS and what is told for thought (SEATS, QUARRELS, LATIN, MASONS, DROUGHT, REIGN) (the taking of THE IMAGE does not)");
        Run r = base().days(3).act(6, 0, 9);
        Run[] keep = {r.text(0, "jet 1;"), r.text(0, ""), r.text(1, "spout 1 into 2;"), r.text(1, ""), r.then(x -> x.seat(0, 0)), r.then(x -> x.seat(NONE, 0)),
            r.then(x -> x.quarrel(0, 1)), r.then(x -> x.quarrel(NONE, 0)), r.then(x -> Run.bit(x.latin(0, 1))), r.then(x -> Run.bit(x.mason(0, true, 3210))),
            r.then(x -> x.drought(0)), r.then(x -> x.drought(NONE)), r.then(x -> x.chapter(1)), r.then(x -> x.chapter(NONE)), r.image(true),
            r.then(x -> x.feed(1, 2, 3, 4, 5)), r.then(x -> Run.bit(x.end(0))), r.text(0, "?"), r.text(2, "?"), r.text(3, "?"), r.text(9, "")};
        for (int i = 0; i < keep.length; i++) {
            Check.due("what can be undone behind telling " + i, keep[i], x -> x.look(12), 4);
            Check.due("undo behind telling " + i, keep[i].undo(), x -> x.who(0, 0), 0b110);
        }
    }

    private static void undoneNotTheTold() {
        Check.sentence("Terms 4", "not undone yet goes back");
        Run r = base().days(1).text(0, "jet 7;").text(1, "spout 2 into 0;").then(x -> x.seat(0, 0), x -> x.drought(0), x -> x.chapter(9)).undo();
        Check.due("DAY goes back", r, x -> x.look(5), 3);
        Check.due("THE LAW stays", r, x -> x.of(0, 8), 7);
        Check.due("GUTTERS stay", r, x -> x.of(2, 6), 0);
        Check.due("SEATS stay", r, x -> x.ways(1), 1);
        Check.due("DROUGHT stays", r, x -> x.longest(0), 1);
        Check.due("REIGN stays", r, x -> x.read(1, 0), 9);
        Check.due("the tape stays", base().days(1).tape("jet").undo().tapeLength(), 3);
        Check.due("fault() stays", base().days(1).text(0, "jet").undo(), x -> x.fault(1), 3);
    }

    private static void theImage() {
        Check.sentence("Promise 38", "THE IMAGE is taken (true), or gone back to (false): true; false if there is none.");
        Check.due("none", new Run(), x -> Run.bit(x.image(false)), 0);
        Check.due("taken", new Run(), x -> Run.bit(x.image(true)), 1);
        Check.due("gone back", new Run().image(true), x -> Run.bit(x.image(false)), 1);
        Run bare = new Run().image(true).then(x -> x.spout(0, 0, 0), x -> x.sitter(1)).act(0, 0, 0).days(1).image(false);
        Check.due("a bare one: first sight that is another one", Arrays.mismatch(new Run().image(true).allSeen(), bare.allSeen()), -1);
        Check.due("a spout is the first again", bare, x -> x.spout(1, 1, 1), 0);
        Check.due("new in all", bare.then(x -> x.spout(1, 1, 1)), x -> x.of(0, 4), 0);
        Check.due("a sitter sits nowhere again", bare.then(x -> x.sitter(1)), x -> x.who(0, 1), NONE);
    }

    private static Run changed(Run r) {
        return r.then(x -> x.spout(5, 3, 99), x -> x.sitter(1), x -> x.state(-9)).set(0, 0, 7).set(1, 0, 77).set(2, 0, 777).set(3, 0, 7)
            .act(0, 0, 2).act(1, 1, 0).act(2, 0, 2).act(2, 5, 2).act(4, 0, 0).act(5, 2, 0).act(7, 0, 0)
            .text(0, "jet 9;hears 9;slip 1000;").text(1, "spout 2 into 0;").text(2, "day 4 rain 9;").text(3, "on 5 tell 0 9;").days(9)
            .then(x -> x.seat(NONE, 0), x -> x.seat(1, 2), x -> x.quarrel(NONE, 0), x -> x.quarrel(8, 9), x -> Run.bit(x.latin(7, 7)), x -> Run.bit(x.latin(1, 9)),
                x -> Run.bit(x.mason(0, false, 3210)), x -> Run.bit(x.mason(2, true, 1203)), x -> x.drought(NONE), x -> x.drought(0), x -> x.chapter(NONE), x -> x.chapter(60));
    }

    /** The base with something told for every thought. */
    private static Run rich() {
        return base().text(0, "hears 3;slip 700 when word=2;").text(3, "on 9 rise 0;")
            .then(x -> x.seat(0, 0), x -> x.seat(1, 0), x -> x.seat(1, 1), x -> x.quarrel(0, 1), x -> x.quarrel(1, 2), x -> x.quarrel(0, 3), x -> Run.bit(x.latin(7, 8)), x -> Run.bit(x.latin(8, 7)),
                x -> Run.bit(x.mason(2, false, 2013)), x -> Run.bit(x.mason(3, false, 2103)), x -> Run.bit(x.mason(2, true, 3120)), x -> x.drought(3), x -> x.drought(0), x -> x.drought(0), x -> x.chapter(9), x -> x.chapter(8));
    }

    private static void imageTakesAll() {
        Check.sentence("Terms 4", "THE IMAGE: all that is and was told but the TAPE, fault() and what can be undone (nothing then), as it was when it was taken");
        Run taken = rich().image(true);
        Run back = changed(taken).image(false);
        Check.due("it was changed", Arrays.mismatch(taken.allSeen(), changed(taken).allSeen()) >= 0, true);
        Check.due("first sight that is another one", Arrays.mismatch(taken.allSeen(), back.allSeen()), -1);
        Check.due("what can be undone", back, x -> x.look(12), 0);
        Check.due("days go on as from it", back.set(0, 0, 9).days(5), x -> x.look(7), taken.set(0, 0, 9).days(5).ask(x -> x.look(7)));
        Check.due("what could be undone when it was taken", rich().days(3).image(true).image(false), x -> x.look(12), 0);
        Check.due("the tape is not of it", rich().tape("jet").image(true).tape("").tape("hears").image(false).tapeLength(), 5);
        Check.due("fault() is not of it", rich().text(0, "?").image(true).text(0, "  ?").image(false), x -> x.fault(1), 2);
        Check.due("fault() is not of it", rich().text(0, "?").image(true).text(0, "").image(false), x -> x.fault(0), 0);
    }

    /** Ten spouts, eight sitters below the last of them, six jars, and THE BOOK full. */
    private static Run full() {
        Run r = Run.of(10, 65535, 65535, 65535, 65535, 65535, 65535, 65535, 65535).text(0, "hears 9;");
        for (int i = 0; i < 8; i++) {
            r = r.act(0, i, i + 2);
        }
        for (int j = 0; j < 6; j++) {
            r = r.act(2, j, j + 4);
        }
        return r.days(2).act(0, 0, 0).days(2).act(0, 0, 1).days(1).then(x -> x.state(7));
    }

    /** Of all that is told for thought as much as can be; what comes last makes a difference. */
    private static Run fullOfThought(Run r) {
        Run all = r.then(x -> x.seat(NONE, 0), x -> x.quarrel(NONE, 0), x -> x.drought(NONE), x -> x.chapter(NONE));
        for (int couple : new int[] {0, 1, 10, 11, 22, 23, 32, 33, 44, 55, 66, 79}) {
            all = all.then(x -> x.seat(couple / 10, couple % 10));
        }
        all = all.then(x -> x.quarrel(2, 3)).times(12, x -> x.quarrel(4, 5)).then(x -> x.quarrel(8, 9));
        for (int w = 0; w < 16; w++) {
            int word = w;
            all = all.then(x -> Run.bit(x.latin(word, (word + 1) % 16)));
        }
        all = all.times(39, x -> x.drought(9)).then(x -> x.drought(0));
        return all.times(11, x -> x.chapter(1)).then(x -> x.chapter(60));
    }

    /** As much as can be of something else. */
    private static Run otherThought(Run r) {
        Run all = r.then(x -> x.seat(NONE, 0), x -> x.quarrel(NONE, 0), x -> x.drought(NONE), x -> x.chapter(NONE)).times(12, x -> x.seat(0, 0))
            .times(14, x -> x.quarrel(2, 4)).times(40, x -> x.drought(5)).times(12, x -> x.chapter(2));
        for (int w = 0; w < 16; w++) {
            int word = w;
            all = all.then(x -> Run.bit(x.latin(word, word)));
        }
        return all;
    }

    private static void imageTakesTheLastOfEach() {
        Check.sentence("Terms 4", "THE IMAGE: all that is and was told");
        Run thought = otherThought(fullOfThought(Run.of(10, 0, 0, 0, 0, 0, 0, 0, 0)).image(true)).image(false);
        Check.due("WAYS of twelve", thought, x -> x.ways(0), 4);
        Check.due("SURE of twelve", thought, x -> x.ways(1), 4);
        Check.due("no thirteenth", thought, x -> x.seat(0, 0), NONE);
        Check.due("GROUPS of fourteen", thought, x -> x.parts(1), 3);
        Check.due("PARTS of fourteen", thought, x -> x.parts(0), 3);
        Check.due("no fifteenth", thought, x -> x.quarrel(0, 1), NONE);
        for (int w = NONE; w < 16; w++) {
            int word = w;
            Check.due("AGAIN " + w, thought, x -> x.again(word), 16);
        }
        Check.due("the longest of forty", thought, x -> x.longest(0), 1);
        Check.due("where it begins", thought, x -> x.longest(1), 39);
        Check.due("the greatest of twelve", thought, x -> x.read(2, 0), 60);
        Check.due("where the second storm begins", thought, x -> x.read(6, 1), 1);
        Check.due("all in one storm", thought, x -> x.read(1, 0), 71);
        Run texts = full().text(0, "jet 0" + "+0".repeat(195) + "+7;").text(1, "spout9into0;".repeat(15) + "spout9into8;")
            .text(2, "day 9 rain 1;".repeat(15) + "day999 rain 9;").text(3, "on 9 rise 0;".repeat(15) + "on 5 tell 7 15;").set(3, 7, 0);
        Run other = texts.image(true).text(0, "jet 1" + "+1".repeat(195) + ";").text(1, "spout9into1;".repeat(16)).text(2, "day 1 rain 2;".repeat(16))
            .text(3, "on 6 lead 1;".repeat(16)).then(x -> x.days(1)).image(false);
        Check.due("the last step of THE LAW", other, x -> x.of(9, 8), 7);
        Check.due("the last gutter", other, x -> x.of(9, 6), 8);
        Check.due("the last line of WEATHER", other, x -> x.weather(999), 9);
        Check.due("the last line of A PLAN", other.days(1), x -> x.who(7, 0), 0x8000);
        Check.due("first sight that is another one", Arrays.mismatch(texts.image(true).allSeen(), other.allSeen()), -1);
        Run lines = Run.of(10).text(0, "hears 1;".repeat(15) + "jet 7 when lean=90;");
        Run otherLines = lines.image(true).text(0, "slip 1+2;".repeat(16)).image(false);
        Check.due("the 16th line of THE LAW", otherLines, x -> x.of(9, 8), 7);
        Check.due("what it says it is for", otherLines, x -> x.of(8, 8), 0);
        Run worlds = full().image(true).set(0, 0, 9).set(1, 9, 1).set(2, 9, 9).set(3, 7, 9).act(0, 7, 0).act(2, 5, 0).act(4, 8, 0).days(3).image(false);
        Check.due("THE BOOK is full", worlds, x -> x.look(6), 150);
        Check.due("first sight that is another one", Arrays.mismatch(full().image(true).allSeen(), worlds.allSeen()), -1);
    }

    /** 149 lines, and the 150th by what is told then and a day. */
    private static Run lastLine(Run.Call... told) {
        Run r = Run.of(10, 65535, 65535, 65535, 65535, 65535, 65535, 65535, 65535).text(0, "hears 9;slip 0;");
        for (int i = 0; i < 8; i++) {
            r = r.act(0, i, i + 2);
        }
        return r.days(2).act(0, 0, 0).days(2).act(0, 0, 1).set(3, 0, 31).days(1).then(told).days(1);
    }

    private static void imageTakesTheLastLine() {
        Check.sentence("Terms 3", "THE BOOK (150 lines; no more then)");
        Run.Call knowsFive = x -> Run.bit(x.act(6, 0, 5));
        Run.Call rains = x -> Run.bit(x.set(0, 0, 9));
        Run.Call[][] otherwise = {{x -> Run.bit(x.act(6, 0, 9))}, {rains}, {x -> x.days(1), knowsFive}};
        int[][] due = {{5, 0, 1, 9}, {5, 1, 0, 0}, {6, 0, 1, 5}};
        for (int i = 0; i < otherwise.length; i++) {
            Run taken = lastLine(knowsFive).image(true);
            Run other = taken.undo().undo().then(otherwise[i]).days(1);
            for (int k = 0; k < 4; k++) {
                int what = k;
                Check.due("line 149, " + k, taken, x -> x.book(149, what), new int[] {5, 0, 1, 5}[k]);
                Check.due("line 149 another way, " + k, other, x -> x.book(149, what), due[i][k]);
                Check.due("line 149 gone back, " + k, other.image(false), x -> x.book(149, what), new int[] {5, 0, 1, 5}[k]);
            }
            Check.due("lines", other.image(false), x -> x.look(6), 150);
        }
    }

    private static long[] allKept(Run r) {
        long[] all = new long[5];
        for (int i = NONE; i < 4; i++) {
            int mason = i;
            all[i + 1] = r.ask(x -> x.keeps(mason));
        }
        return all;
    }

    private static void imageTakesEachRow() {
        Check.sentence("Terms 4", "MASONS, four, each with a row of the four STONES he'd have");
        int[] wanted = {123, 1023, 2013, 3012};
        for (int n = 0; n < 4; n++) {
            int i = n;
            Run ofMason = new Run().then(x -> Run.bit(x.mason(i, false, 3210))).image(true);
            Run another = ofMason.then(x -> Run.bit(x.mason(i, false, 123)));
            Check.due("mason " + i + "'s row makes a difference", Arrays.equals(allKept(ofMason), allKept(another)), false);
            Check.due("mason " + i + "'s row comes back", Arrays.mismatch(allKept(ofMason), allKept(another.image(false))), -1);
            Run ofStone = new Run();
            for (int m = 0; m < 4; m++) {
                int mason = m;
                ofStone = ofStone.then(x -> Run.bit(x.mason(mason, false, wanted[i])));
            }
            ofStone = ofStone.then(x -> Run.bit(x.mason(i, true, 3210))).image(true);
            another = ofStone.then(x -> Run.bit(x.mason(i, true, 123)));
            Check.due("stone " + i + "'s row makes a difference", Arrays.equals(allKept(ofStone), allKept(another)), false);
            Check.due("stone " + i + "'s row comes back", Arrays.mismatch(allKept(ofStone), allKept(another.image(false))), -1);
        }
        // Mason 3 is refused by all stones but the last of his row.
        Run lastOffer = new Run(x -> Run.bit(x.mason(0, false, 1023)), x -> Run.bit(x.mason(1, false, 2013)), x -> Run.bit(x.mason(2, false, 3012)),
            x -> Run.bit(x.mason(3, false, 1230))).image(true).then(x -> Run.bit(x.mason(3, false, 123))).image(false);
        Check.due("the last of a row", lastOffer, x -> x.keeps(3), 0);
        Check.due("offers", lastOffer, x -> x.keeps(NONE), 7);
    }

    private static void undoOfTheLastOfEach() {
        Check.sentence("Terms 4", "UNDO: the latest DAY, SEATING, RISING, JAR, MENDING, LEADING, OPENING, TELLING, EMPTYING not undone yet goes back");
        Run r = full().set(0, 0, 9);
        undone("a wet day of ten spouts", r, x -> x.days(1));
        undone("another", r.days(1), x -> x.days(1));
        undone("a leading of spout 9", r, x -> Run.bit(x.act(4, 9, 0)));
        undone("a seating of sitter 7", r, x -> Run.bit(x.act(0, 7, 0)));
        undone("a telling of sitter 7", r.set(3, 7, 0), x -> Run.bit(x.act(6, 7, 15)));
        undone("jar 5 at another spout", r, x -> Run.bit(x.act(2, 5, 0)));
        Run weather = full().text(2, "day 5 rain 9;day 6 rain 0;").image(true);
        Check.due("the 16th word of spout 9", weather, x -> x.of(9, 35), 15);
        Check.due("two days later", weather.days(2), x -> x.of(9, 35), 8);
        Check.due("undone", weather.days(2).undo().undo(), x -> x.of(9, 35), 15);
        Check.due("in the image", weather.days(2).image(false), x -> x.of(9, 35), 15);
        undone("an emptying of jar 5", r.days(1).then(x -> x.state(0)), x -> Run.bit(x.act(7, 5, 0)));
    }

    private static void imageAgain() {
        Check.sentence("Terms 4", "gone back to it may be more than once.");
        Run taken = rich().image(true);
        Run back = changed(changed(taken).image(false)).image(false).days(4).image(false).image(false);
        Check.due("first sight that is another one", Arrays.mismatch(taken.allSeen(), back.allSeen()), -1);
        Run later = changed(taken).image(true).then(x -> x.state(0));
        Check.due("a later one is in its stead", later.image(false), x -> x.look(2), changed(taken).ask(x -> x.look(2)));
        Check.due("a later one is in its stead", later.image(false), x -> x.look(5), 12);
        Check.due("taken again from what was gone back to", back.image(true).days(7).image(false), x -> x.look(5), 3);
    }

    private static void imageAndUndo() {
        Check.sentence("Terms 4", "(the taking of THE IMAGE does not)");
        Run r = rich().days(4).image(true);
        Check.due("four to undo", r, x -> x.look(12), 4);
        Check.due("undo goes on behind it", r.undo().undo(), x -> x.look(5), 5);
        Check.due("the image is as it was taken", r.undo().undo().undo().image(false), x -> x.look(5), 7);
        Check.due("THE BOOK, too", r.undo().undo().undo().undo().set(0, 0, 9).days(1).image(false).ask(x -> x.book(1, 3)), r.ask(x -> x.book(1, 3)));
        // Undone and gone another way, the last line of THE BOOK has another DAY, what, which and WORD.
        Run wet = Run.of(2, 1, 2).act(0, 0, 0).act(0, 1, 1).act(4, 1, 0).days(1).text(0, "slip 0;").set(0, 0, 1).days(2);
        Run other = wet.image(true).undo().undo().act(5, 1, 0).text(2, "day 1 rain 0;").days(1);
        int[] said = {1, 1, 0, 0};
        int[] heard = {1, 0, 1, 1};
        for (int k = 0; k < 4; k++) {
            int what = k;
            Check.due("line 1 as it was said, " + k, wet, x -> x.book(1, what), said[k]);
            Check.due("line 1 in the image, " + k, other.image(false), x -> x.book(1, what), said[k]);
            Check.due("line 1 another way, " + k, other, x -> x.book(1, what), heard[k]);
        }
        Check.due("DAY of a line in the image", laterBook().image(false), x -> x.book(1, 0), 1);
        Check.due("DAY of that line another way", laterBook(), x -> x.book(1, 0), 2);
        Check.due("nothing to undo then", r.undo().image(false), x -> Run.bit(x.undo()), 0);
    }

    /** Line 1 of THE BOOK was written on day 1, is in the image so, and is then written on day 2. */
    private static Run laterBook() {
        return Run.of(1, 1).act(0, 0, 0).days(1).act(6, 0, 1).days(1).image(true).undo().undo().days(1).act(6, 0, 1).days(1);
    }
}
