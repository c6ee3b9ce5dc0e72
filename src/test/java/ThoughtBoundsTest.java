/** What is asked in thought, and what is told for it alone (promises 18 to 36). */
public final class ThoughtBoundsTest {
    private static final int NONE = SpoutNews.NONE;

    public static void main(String[] args) {
        told();
        ends();
        catches();
        seats();
        ways();
        sureAndAsk();
        quarrels();
        parts();
        known();
        latin();
        again();
        masons();
        keeps();
        surmise();
        drought();
        longest();
        leans();
        chapters();
        read();
        gameOfOne();
        gameOfSeveral();
        Check.end("ThoughtBoundsTest");
    }

    private static final String CHAIN = "spout0into1;spout1into2;spout2into3;spout3into4;spout4into5;spout5into6;spout6into7;spout7into8;spout8into9;";

    private static void told() {
        Check.sentence("Terms 4", "TOLD of a WORD and a SPOUT: SITTERS who KNOW it and are AT it, or AT one from which gutters lead to it: a set.");
        Run r = Run.of(10, 1, 1, 1, 1, 1, 1, 1, 0x8001).text(1, CHAIN);
        Check.due("nobody sits", r, x -> x.told(0, 9), 0);
        Check.due("at it", r.act(0, 7, 9), x -> x.told(0, 9), 128);
        Check.due("word 15", r.act(0, 7, 9).act(0, 6, 9), x -> x.told(15, 9), 128);
        Check.due("behind nine gutters", r.act(0, 0, 0), x -> x.told(0, 9), 1);
        Check.due("not against them", r.act(0, 0, 9), x -> x.told(0, 8), 0);
        Check.due("not without one", Run.of(10, 1).act(0, 0, 0), x -> x.told(0, 1), 0);
        Run all = r;
        for (int i = 0; i < 8; i++) {
            all = all.act(0, i, i);
        }
        Check.due("all", all, x -> x.told(0, 9), 255);
        Check.due("three", all, x -> x.told(0, 2), 7);
        Check.due("one", all, x -> x.told(0, 0), 1);
        Check.due("in a round all", all.text(1, CHAIN + "spout9into0;"), x -> x.told(0, 0), 255);
        Check.due("a word nobody knows", all, x -> x.told(14, 9), 0);
        Check.due("a leaded one is asked no less", all.act(4, 5, 0), x -> x.told(0, 9), 255);
        Check.due("who has risen", all.act(1, 0, 0), x -> x.told(0, 9), 254);
        Check.sentence("Promise 18", "TOLD, as a set; NONE if one can't be.");
        Check.due("word 16", all, x -> x.told(16, 0), NONE);
        Check.due("word -1", all, x -> x.told(-1, 0), NONE);
        Check.due("spout 10", all, x -> x.told(0, 10), NONE);
        Check.due("spout -1", all, x -> x.told(0, -1), NONE);
        Check.due("spout 9 of nine", Run.of(9), x -> x.told(0, 9), NONE);
    }

    private static void end(Run r, int spout, int where, int behind) {
        Check.due("where " + spout + " ends", r, x -> x.ends(spout, 0), where);
        Check.due("behind how many " + spout + " ends", r, x -> x.ends(spout, 1), behind);
    }

    private static void ends() {
        Check.sentence("Terms 4", "the SPOUT without a gutter; or, if it comes round, the least one of that round;"
            + " behind how many gutters it is there first (of a round: the first of it that is met).");
        end(Run.of(1), 0, 0, 0);
        Run chain = Run.of(10).text(1, CHAIN);
        end(chain, 0, 9, 9);
        end(chain, 8, 9, 1);
        end(chain, 9, 9, 0);
        Run round = Run.of(10).text(1, CHAIN + "spout9into0;");
        end(round, 0, 0, 0);
        end(round, 9, 0, 0);
        Run tail = Run.of(10).text(1, CHAIN + "spout9into8;");
        end(tail, 0, 8, 8);
        end(tail, 7, 8, 1);
        end(tail, 8, 8, 0);
        end(tail, 9, 8, 0);
        // The first that is met is 5, the least of the round is 2.
        Run late = Run.of(10).text(1, "spout 0 into 1;spout 1 into 5;spout 5 into 7;spout 7 into 2;spout 2 into 5;");
        end(late, 0, 2, 2);
        end(late, 1, 2, 1);
        end(late, 7, 2, 0);
        end(Run.of(2).text(1, "spout 1 into 0;"), 1, 0, 1);
        Check.sentence("Promise 19", "NONE if there is none such, or another what.");
        Check.due("spout 10", chain, x -> x.ends(10, 0), NONE);
        Check.due("spout -1", chain, x -> x.ends(-1, 1), NONE);
        Check.due("what 2", chain, x -> x.ends(0, 2), NONE);
        Check.due("what -1", chain, x -> x.ends(0, -1), NONE);
        Check.due("no spout", new Run(), x -> x.ends(0, 0), NONE);
    }

    private static void caught(String how, Run r, int fewest, int set) {
        Check.due(how + ": how many", r, x -> x.catches(0), fewest);
        Check.due(how + ": the set", r, x -> x.catches(1), set);
    }

    private static void catches() {
        Check.sentence("Terms 4", "CATCH: the fewest SPOUTS for JARS so that of each SPOUT what it says passes one (said there itself, too): how many;"
            + " the set (of several the least).");
        caught("no spout", new Run(), 0, 0);
        caught("one", Run.of(1), 1, 1);
        caught("ten without a gutter", Run.of(10), 10, 1023);
        caught("a chain", Run.of(10).text(1, CHAIN), 1, 512);
        caught("a round", Run.of(10).text(1, CHAIN + "spout9into0;"), 1, 1);
        caught("a tail and a round", Run.of(10).text(1, CHAIN + "spout9into8;"), 1, 256);
        caught("five rounds", Run.of(10).text(1, "spout0into9;spout9into0;spout1into8;spout8into1;spout2into7;spout7into2;spout3into6;spout6into3;"
            + "spout4into5;spout5into4;"), 5, 31);
        caught("all into one", Run.of(10).text(1, "spout0into5;spout1into5;spout2into5;spout3into5;spout4into5;spout6into5;spout7into5;spout8into5;spout9into5;"), 1, 32);
        Check.sentence("Promise 20", "CATCH what 0 how many, 1 the set. NONE for another what.");
        Check.due("what 2", Run.of(1), x -> x.catches(2), NONE);
        Check.due("what -1", Run.of(1), x -> x.catches(-1), NONE);
    }

    private static Run seated(Run r, int... couples) {
        Run all = r;
        for (int c : couples) {
            all = all.then(x -> x.seat(c / 10, c % 10));
        }
        return all;
    }

    private static Run place() {
        return Run.of(10, 0, 0, 0, 0, 0, 0, 0, 0);
    }

    private static void seats() {
        Check.sentence("Terms 4", "SEATS, up to 12 told: SITTER a may have sat below SPOUT b.");
        for (int n = 0; n <= 12; n++) {
            Check.due("seat behind " + n, place().times(n, x -> x.seat(7, 9)), x -> x.seat(0, 0), n < 12 ? n + 1 : NONE);
        }
        Check.sentence("Promise 21", "SEATS are told (a NONE: nothing is then): how many; NONE if one can't be, or there are twelve.");
        for (int b : new int[] {Integer.MIN_VALUE, -1, 0, 99, Integer.MAX_VALUE}) {
            Run none = place().times(12, x -> x.seat(7, 9)).then(x -> x.seat(NONE, b));
            Check.due("seat NONE", none.last(), 0);
            Check.due("the first then", none, x -> x.seat(0, 0), 1);
            Check.due("ASK then", none, x -> x.ways(2), NONE);
        }
        Check.due("NONE of none", new Run(), x -> x.seat(NONE, 0), 0);
        Check.due("sitter 7 below spout 9", place(), x -> x.seat(7, 9), 1);
        Check.due("sitter 8", place(), x -> x.seat(8, 9), NONE);
        Check.due("sitter -2", place(), x -> x.seat(-2, 9), NONE);
        Check.due("spout 10", place(), x -> x.seat(7, 10), NONE);
        Check.due("spout -1", place(), x -> x.seat(7, -1), NONE);
        Check.due("sitter 1 of one", Run.of(2, 0), x -> x.seat(1, 0), NONE);
        Check.due("spout 2 of two", Run.of(2, 0), x -> x.seat(0, 2), NONE);
        Check.due("one that can't be is not told", place().then(x -> x.seat(8, 0)), x -> x.ways(2), NONE);
    }

    private static void ways() {
        Check.sentence("Terms 4", "WAYS: in how many ways each SITTER told of sat below one such, no two below the same");
        Check.due("nothing told", place(), x -> x.ways(0), 1);
        Check.due("one", seated(place(), 79), x -> x.ways(0), 1);
        Check.due("two below one", seated(place(), 0, 10), x -> x.ways(0), 0);
        Check.due("three of four spouts", seated(place(), 0, 1, 2, 3, 10, 11, 12, 13, 20, 21, 22, 23), x -> x.ways(0), 24);
        Check.due("four of three spouts", seated(place(), 0, 1, 2, 10, 11, 12, 20, 21, 22, 30, 31, 32), x -> x.ways(0), 0);
        Check.due("six with two each", seated(place(), 0, 1, 12, 13, 24, 25, 36, 37, 48, 49, 50, 51), x -> x.ways(0), 32);
        Check.due("one with ten", seated(place(), 0, 1, 2, 3, 4, 5, 6, 7, 8, 9), x -> x.ways(0), 10);
        Check.due("eight with one each", seated(place(), 9, 18, 27, 36, 45, 54, 63, 72), x -> x.ways(0), 1);
        Check.due("the same couple told again is no other way", seated(place(), 9, 9, 9), x -> x.ways(0), 1);
        Check.sentence("Promise 22", "NONE for another what.");
        Check.due("what 3", place(), x -> x.ways(3), NONE);
        Check.due("what -1", place(), x -> x.ways(-1), NONE);
    }

    private static void sureAndAsk() {
        Check.sentence("Terms 4", "SURE: couples told that are so in all (how many)");
        Check.due("nothing told", place(), x -> x.ways(1), 0);
        Check.due("one", seated(place(), 79), x -> x.ways(1), 1);
        Check.due("none of twelve", seated(place(), 0, 1, 2, 3, 10, 11, 12, 13, 20, 21, 22, 23), x -> x.ways(1), 0);
        Check.due("eight of eight", seated(place(), 9, 18, 27, 36, 45, 54, 63, 72), x -> x.ways(1), 8);
        Check.due("one that follows", seated(place(), 0, 10, 11), x -> x.ways(1), 2);
        Check.due("some", seated(place(), 79, 0, 1), x -> x.ways(1), 1);
        Check.sentence("Terms 4", "ASK: the SITTER told of for whom the greatest number of ways with one and the same SPOUT is least; of several the least.");
        Check.due("nothing told", place(), x -> x.ways(2), NONE);
        Check.due("one", seated(place(), 79), x -> x.ways(2), 7);
        Check.due("alike", seated(place(), 79, 58, 67), x -> x.ways(2), 5);
        Check.due("two are less than all", seated(place(), 9, 71, 72), x -> x.ways(2), 7);
        Check.due("three are less than two", seated(place(), 8, 9, 71, 72, 73), x -> x.ways(2), 7);
        Check.due("of several the least", seated(place(), 71, 72, 68, 69), x -> x.ways(2), 6);
        Check.due("sitter 0", seated(place(), 0, 1, 12), x -> x.ways(2), 0);
        Check.due("spout 0 counts", seated(place(), 0, 11, 12), x -> x.ways(2), 1);
        Run asked = seated(place(), 79, 60).then(x -> x.ways(0), x -> x.ways(1), x -> x.ways(2));
        Check.due("asked again, WAYS", asked, x -> x.ways(0), 1);
        Check.due("asked again, SURE", asked, x -> x.ways(1), 2);
        Check.due("asked again behind NONE, SURE", seated(asked.then(x -> x.seat(NONE, 0)), 0, 1), x -> x.ways(1), 0);
        Check.due("asked again behind NONE, ASK", seated(asked.then(x -> x.seat(NONE, 0)), 0, 1), x -> x.ways(2), 0);
    }

    private static Run quarrelled(int... couples) {
        Run r = new Run();
        for (int c : couples) {
            r = r.then(x -> x.quarrel(c / 10, c % 10));
        }
        return r;
    }

    private static void quarrels() {
        Check.sentence("Terms 4", "QUARRELS, up to 14 told: SPOUTS a, b (0 .. 9; unlike).");
        for (int n = 0; n <= 14; n++) {
            Check.due("quarrel behind " + n, new Run().times(n, x -> x.quarrel(9, 0)), x -> x.quarrel(0, 9), n < 14 ? n + 1 : NONE);
        }
        for (int i = 0; i < 10; i++) {
            int spout = i;
            Check.due("with itself", new Run(), x -> x.quarrel(spout, spout), NONE);
        }
        Check.sentence("Promise 23", "QUARRELS (a NONE: none are then): how many; NONE if one can't be, or there are fourteen.");
        for (int b : new int[] {Integer.MIN_VALUE, -1, 0, 10, Integer.MAX_VALUE}) {
            Run none = new Run().times(14, x -> x.quarrel(9, 0)).then(x -> x.quarrel(NONE, b));
            Check.due("quarrel NONE", none.last(), 0);
            Check.due("groups then", none, x -> x.parts(1), 0);
            Check.due("the first then", none, x -> x.quarrel(0, 1), 1);
        }
        for (int bad : new int[] {Integer.MIN_VALUE, -2, 10, Integer.MAX_VALUE}) {
            Check.due("of " + bad, new Run(), x -> x.quarrel(bad, 0), NONE);
            Check.due("with " + bad, new Run(), x -> x.quarrel(0, bad), NONE);
        }
        Check.due("with -1", new Run(), x -> x.quarrel(0, -1), NONE);
    }

    private static void part(String how, Run r, int first, int groups) {
        Check.due(how + ": first side", r, x -> x.parts(0), first);
        Check.due(how + ": groups", r, x -> x.parts(1), groups);
    }

    private static void parts() {
        Check.sentence("Terms 4", "GROUPS: those told of, along quarrels; PARTS: each group is laid on two sides so that none that quarrel are together,"
            + " the greater side of each group on the first one: how many are on the first side in all; how many groups.");
        part("nothing told", new Run(), 0, 0);
        part("one", quarrelled(90), 1, 1);
        part("told again and the other way", quarrelled(90, 90, 9), 1, 1);
        part("five couples", quarrelled(1, 23, 45, 67, 89), 5, 5);
        part("a star", quarrelled(91, 92, 93, 94, 95, 96, 97, 98, 90), 9, 1);
        part("two stars", quarrelled(1, 2, 3, 4, 56, 57, 58, 59), 8, 2);
        part("a row", quarrelled(1, 12, 23, 34, 45, 56, 67, 78, 89), 5, 1);
        part("a row told from its ends", quarrelled(1, 89, 12, 78, 23, 67, 34, 56, 45), 5, 1);
        part("a star told from its points, behind a couple", quarrelled(89, 10, 20, 30), 4, 2);
        part("a row told with its middle last", quarrelled(4, 23, 34), 2, 1);
        part("an even round", quarrelled(1, 12, 23, 30), 2, 1);
        part("three and four", quarrelled(3, 4, 5, 6, 13, 14, 15, 16, 23, 24, 25, 26), 4, 1);
        part("five and one, one and one", quarrelled(1, 2, 3, 4, 5, 89), 6, 2);
        Check.sentence("Promise 24", "NONE if they can't be parted (0), or for another what.");
        part("three", quarrelled(1, 12, 20), NONE, 1);
        part("a round of nine", quarrelled(1, 12, 23, 34, 45, 56, 67, 78, 80), NONE, 1);
        part("the last group alone can't", quarrelled(1, 23, 78, 89, 97), NONE, 3);
        part("the first group alone can't", quarrelled(1, 12, 20, 34, 56), NONE, 3);
        Check.due("what 2", quarrelled(1), x -> x.parts(2), NONE);
        Check.due("what -1", quarrelled(1), x -> x.parts(-1), NONE);
    }

    /** The i-th spout has heard the i-th set of words. */
    private static Run hearing(int... words) {
        Run r = Run.of(words.length, words).text(0, "hears 9;");
        for (int i = 0; i < words.length; i++) {
            r = r.act(0, i, i);
        }
        return r.days(2);
    }

    private static void knows(String how, Run r, int words, int fewest, int set) {
        Check.due(how + ": how many", r, x -> x.known(words, 0), fewest);
        Check.due(how + ": the set", r, x -> x.known(words, 1), set);
    }

    private static void known() {
        Check.sentence("Terms 4", "KNOWN of a set of WORDS: the fewest SPOUTS that have HEARD all of it between them; the set (of several the least).");
        knows("nothing, of no spout", new Run(), 0, 0, 0);
        knows("nothing", hearing(1, 2), 0, 0, 0);
        knows("all of one", hearing(0, 65535), 65535, 1, 2);
        knows("word 15", hearing(0, 0, 32768), 32768, 1, 4);
        knows("each its own", hearing(1, 2, 4, 8, 16, 32, 64, 128), 255, 8, 255);
        knows("each its own, six of them", hearing(1, 2, 4, 8, 16, 32, 64, 128), 126, 6, 126);
        knows("one for two", hearing(1, 2, 3), 3, 1, 4);
        knows("of several the least", hearing(3, 4, 1, 6), 7, 2, 3);
        knows("alike", hearing(5, 5, 5), 5, 1, 1);
        Run ten = Run.of(10, 0);
        for (int i = 0; i < 10; i++) {
            ten = ten.set(3, 0, 1 << i).act(0, 0, i).days(1);
        }
        knows("ten, each its own", ten, 1023, 10, 1023);
        knows("nine of ten", ten, 1022, 9, 1022);
        Run last = Run.of(10, 3).text(0, "hears 9;").act(0, 0, 9).days(1);
        knows("the tenth spout", last, 3, 1, 512);
        Check.sentence("Promise 25", "NONE if by none, there are other bits than WORDS, or another what.");
        knows("one word by none", hearing(1, 2, 4), 15, NONE, NONE);
        knows("no spout", new Run(), 1, NONE, NONE);
        knows("what a sitter knows is not HEARD", Run.of(1, 1).act(0, 0, 0), 1, NONE, NONE);
        knows("bit 16", hearing(65535), 65536, NONE, NONE);
        knows("bit 16 and others", hearing(65535), 65537, NONE, NONE);
        knows("all bits", hearing(65535), -1, NONE, NONE);
        knows("the highest bit", hearing(65535), Integer.MIN_VALUE, NONE, NONE);
        Check.due("what 2", hearing(1), x -> x.known(0, 2), NONE);
        Check.due("what -1", hearing(1), x -> x.known(0, -1), NONE);
    }

    private static Run latinOf(int... to) {
        Run r = new Run();
        for (int i = 0; i < to.length; i++) {
            int word = i;
            r = r.then(x -> Run.bit(x.latin(word, to[word])));
        }
        return r;
    }

    private static void latin() {
        Check.sentence("Terms 4", "LATIN: of each WORD a told one (at first itself).");
        for (int w = 0; w < 16; w++) {
            int word = w;
            Check.due("at first", new Run(), x -> x.again(word), 1);
        }
        Check.sentence("Promise 26", "LATIN is told: true; false if one can't be.");
        for (int w : new int[] {0, 15}) {
            for (int to : new int[] {0, 15}) {
                Check.due("latin " + w + " " + to, new Run(), x -> Run.bit(x.latin(w, to)), 1);
                Check.due("two of one", new Run(x -> Run.bit(x.latin(w, to))), x -> x.again(-1), w == to ? 1 : NONE);
            }
        }
        for (int bad : Run.beyond(0, 15)) {
            Check.due("of " + bad, new Run(), x -> Run.bit(x.latin(bad, 0)), 0);
            Check.due("to " + bad, new Run(), x -> Run.bit(x.latin(0, bad)), 0);
        }
        Check.due("told again", latinOf(1, 0).then(x -> Run.bit(x.latin(0, 0)), x -> Run.bit(x.latin(1, 1))), x -> x.again(-1), 1);
    }

    private static void again() {
        Check.sentence("Terms 4", "AGAIN: behind how many times (1 on) all WORDS are themselves again (none, if two have the same)");
        Check.due("at first", new Run(), x -> x.again(-1), 1);
        Check.due("two", latinOf(1, 0), x -> x.again(-1), 2);
        Check.due("a round of all", latinOf(1, 2, 3, 4, 5, 6, 7, 8, 9, 10, 11, 12, 13, 14, 15, 0), x -> x.again(-1), 16);
        Check.due("rounds of 4, 5 and 7", latinOf(1, 2, 3, 0, 5, 6, 7, 8, 4, 10, 11, 12, 13, 14, 15, 9), x -> x.again(-1), 140);
        Check.due("rounds of 4, 6 and 6", latinOf(1, 2, 3, 0, 5, 6, 7, 8, 9, 4, 11, 12, 13, 14, 15, 10), x -> x.again(-1), 12);
        Check.due("two have the same", latinOf(1), x -> x.again(-1), NONE);
        Check.due("all have the same", latinOf(new int[16]), x -> x.again(-1), NONE);
        Check.sentence("Terms 4", "of one WORD: behind how many it comes to one that was there.");
        Run down = latinOf(0, 0, 1, 2, 3, 4, 5, 6, 7, 8, 9, 10, 11, 12, 13, 14);
        for (int w = 0; w < 16; w++) {
            int word = w;
            Check.due("down to 0", down, x -> x.again(word), w + 1);
        }
        Run round = latinOf(1, 2, 3, 4, 5, 6, 7, 8, 9, 10, 11, 12, 13, 14, 15, 0);
        Check.due("a round of all", round, x -> x.again(0), 16);
        Check.due("a round of all", round, x -> x.again(15), 16);
        Check.due("into a round of two", latinOf(1, 0, 1), x -> x.again(2), 3);
        Check.sentence("Promise 27", "AGAIN of all (word NONE); of one WORD. NONE if there is none such, or never.");
        Check.due("16", round, x -> x.again(16), NONE);
        Check.due("-2", round, x -> x.again(-2), NONE);
        Check.due("least int", round, x -> x.again(Integer.MIN_VALUE), NONE);
    }

    private static void masons() {
        Check.sentence("Promise 28", "its row (0 .. 3 each once, as a number of four digits): true; false if one can't be.");
        int can = 0;
        for (int row = -10; row < 10100; row++) {
            int told = row;
            if (new SpoutNews().mason(3, row % 2 == 0, told)) {
                can++;
                String digits = String.format("%04d", row);
                Check.due("row " + row, digits.chars().distinct().count() == 4 && digits.matches("[0-3]{4}"), true);
            }
        }
        Check.due("so many rows can be", can, 24);
        for (int i : new int[] {0, 3}) {
            Check.due("mason " + i, new Run(), x -> Run.bit(x.mason(i, false, 123)), 1);
            Check.due("stone " + i, new Run(), x -> Run.bit(x.mason(i, true, 3210)), 1);
        }
        for (int i : Run.beyond(0, 3)) {
            Check.due("mason " + i, new Run(), x -> Run.bit(x.mason(i, false, 123)), 0);
            Check.due("stone " + i, new Run(), x -> Run.bit(x.mason(i, true, 123)), 0);
        }
    }

    private static Run rows(int[] masons, int[] stones) {
        Run r = new Run();
        for (int k = 0; k < 4; k++) {
            int i = k;
            r = r.then(x -> Run.bit(x.mason(i, false, masons[i])), x -> Run.bit(x.mason(i, true, stones[i])));
        }
        return r;
    }

    private static void kept(Run r, int offers, int... stones) {
        for (int i = 0; i < 4; i++) {
            int mason = i;
            Check.due("mason " + i, r, x -> x.keeps(mason), stones[i]);
        }
        Check.due("offers", r, x -> x.keeps(NONE), offers);
    }

    private static void keeps() {
        Check.sentence("Terms 4", "MASONS, four, each with a row of the four STONES he'd have (0 .. 3, the dearest first), STONES each with a row of masons");
        kept(new Run(x -> Run.bit(x.mason(3, false, 3210))), 7, 0, 1, 2, 3);
        kept(new Run(x -> Run.bit(x.mason(0, true, 3210))), 10, 1, 2, 3, 0);
        Check.sentence("Terms 4", "told as numbers of four digits (0 1 2 3 at first).");
        kept(new Run(), 10, 0, 1, 2, 3);
        Check.sentence("Terms 4", "KEEPS: offers go out, the mason's dearest that has not refused him yet, mason by mason (the least that has none first);"
            + " a STONE keeps whom it has dearer: which STONE a mason has at last; how many offers there were.");
        kept(rows(new int[] {123, 1230, 2301, 3012}, new int[] {123, 123, 123, 123}), 4, 0, 1, 2, 3);
        kept(rows(new int[] {3210, 2301, 1230, 123}, new int[] {123, 123, 123, 123}), 4, 3, 2, 1, 0);
        kept(rows(new int[] {123, 123, 123, 123}, new int[] {3210, 3210, 3210, 3210}), 10, 3, 2, 1, 0);
        kept(rows(new int[] {2103, 213, 2013, 1023}, new int[] {321, 1203, 3102, 231}), 13, 0, 1, 3, 2);
        kept(rows(new int[] {2031, 2031, 3021, 321}, new int[] {132, 1302, 3201, 123}), 12, 0, 3, 1, 2);
        Check.sentence("Promise 29", "KEEPS: mason i's STONE; how many offers (i NONE). NONE if there is none such.");
        for (int i : Run.beyond(-1, 3)) {
            Check.due("keeps " + i, new Run(), x -> x.keeps(i), NONE);
        }
    }

    private static void surmise() {
        Check.sentence("Terms 4", "SURMISE of p (0 .. 1000) of a thousand, n (0 .. 20) SPOUTS that say so, m (0 .. 20) that say not so: of a million");
        int[][] due = {{0, 0, 0, 0}, {1, 0, 0, 1000}, {999, 0, 0, 999000}, {1000, 0, 0, 1000000}, {0, 20, 0, 0}, {0, 0, 20, 0}, {0, 20, 20, 0},
            {1000, 20, 0, 1000000}, {1000, 0, 20, 1000000}, {1000, 20, 20, 1000000}, {1, 20, 0, 768836}, {1, 0, 20, 0}, {999, 20, 0, 999997},
            {999, 0, 20, 230800}, {500, 20, 0, 999697}, {500, 0, 20, 300}};
        for (int[] d : due) {
            Check.due("surmise " + d[0] + " " + d[1] + " " + d[2], new Run(), x -> x.surmise(d[0], d[1], d[2]), d[3]);
        }
        Check.sentence("Terms 4", "n times q is q a by (q a + (a million less q) b), of a million, downwards, then m times with b and a: a 600, b 400.");
        int[][] down = {{500, 1, 0, 600000}, {500, 0, 1, 400000}, {500, 2, 0, 692307}, {500, 2, 1, 599999}, {500, 3, 2, 599996}, {500, 20, 20, 497079},
            {1, 20, 20, 997}, {999, 20, 20, 987995}, {1, 0, 7, 58}};
        for (int[] d : down) {
            Check.due("surmise " + d[0] + " " + d[1] + " " + d[2], new Run(), x -> x.surmise(d[0], d[1], d[2]), d[3]);
        }
        Check.sentence("Promise 30", "SURMISE; NONE if one can't be.");
        for (int bad : Run.beyond(0, 1000)) {
            Check.due("p " + bad, new Run(), x -> x.surmise(bad, 0, 0), NONE);
        }
        for (int bad : Run.beyond(0, 20)) {
            Check.due("n " + bad, new Run(), x -> x.surmise(0, bad, 0), NONE);
            Check.due("m " + bad, new Run(), x -> x.surmise(0, 0, bad), NONE);
        }
    }

    private static Run droughtOf(int... days) {
        Run r = new Run();
        for (int d : days) {
            r = r.then(x -> x.drought(d));
        }
        return r;
    }

    private static void drought() {
        Check.sentence("Terms 4", "DROUGHT: up to 40 told days (RAIN 0 .. 9)");
        for (int n : new int[] {0, 1, 38, 39}) {
            Check.due("a day behind " + n, new Run().times(n, x -> x.drought(9)), x -> x.drought(0), n + 1);
        }
        Check.due("a day behind 40", new Run().times(40, x -> x.drought(9)), x -> x.drought(0), NONE);
        Check.due("RAIN 0", new Run(), x -> x.drought(0), 1);
        Check.due("RAIN 9", new Run(), x -> x.drought(9), 1);
        Check.due("RAIN 10", new Run(), x -> x.drought(10), NONE);
        Check.due("RAIN -2", new Run(), x -> x.drought(-2), NONE);
        Check.sentence("Promise 31", "DROUGHT: a day more (NONE: none is then): how many");
        Run full = new Run().times(40, x -> x.drought(0)).then(x -> x.drought(NONE));
        Check.due("NONE", full.last(), 0);
        Check.due("none is then", full, x -> x.longest(0), 0);
        Check.due("the first then", full, x -> x.drought(0), 1);
        Check.due("NONE of none", new Run(), x -> x.drought(NONE), 0);
    }

    private static void dry(String how, Run r, int long0, int begins) {
        Check.due(how + ": how long", r, x -> x.longest(0), long0);
        Check.due(how + ": where", r, x -> x.longest(1), begins);
    }

    private static void longest() {
        Check.sentence("Terms 4", "the longest run without rain; where it begins (of several the first).");
        dry("no day", new Run(), 0, NONE);
        dry("a wet day", droughtOf(1), 0, NONE);
        dry("forty wet days", new Run().times(40, x -> x.drought(1)), 0, NONE);
        dry("a dry day", droughtOf(0), 1, 0);
        dry("forty dry days", new Run().times(40, x -> x.drought(0)), 40, 0);
        dry("the last day of forty", new Run().times(39, x -> x.drought(9)).then(x -> x.drought(0)), 1, 39);
        dry("of two alike the first", droughtOf(1, 0, 0, 1, 0, 0), 2, 1);
        dry("the longer one behind", droughtOf(0, 0, 1, 0, 0, 0), 3, 3);
        dry("the longer one before", droughtOf(0, 0, 0, 1, 0, 0), 3, 0);
        Check.sentence("Promise 32", "DROUGHT what 0 how long, 1 where it begins (NONE). NONE for another what.");
        Check.due("what 2", droughtOf(0), x -> x.longest(2), NONE);
        Check.due("what -1", droughtOf(0), x -> x.longest(-1), NONE);
    }

    private static void leans() {
        Check.sentence("Terms 4", "LEANS of c (1 .. 99): the fewest centuries (each: LEAN is a tenth and 1 more, downwards) until all SPOUTS have LEAN c at least.");
        int[][] due = {{0, 1, 1}, {0, 9, 9}, {0, 10, 10}, {0, 11, 11}, {0, 12, 11}, {0, 13, 12}, {0, 99, 30}, {1, 99, 29}, {98, 99, 1}, {90, 99, 1},
            {89, 99, 2}, {99, 99, 0}, {9, 10, 1}, {9, 11, 2}, {10, 12, 1}, {10, 13, 2}, {19, 21, 1}, {5, 5, 0}, {5, 4, 0}, {99, 1, 0}};
        for (int[] d : due) {
            Check.due("leans " + d[1] + " from " + d[0], new Run(x -> x.spout(0, 0, d[0])), x -> x.leans(d[1]), d[2]);
        }
        Check.due("no spout", new Run(), x -> x.leans(99), 0);
        Check.due("all of them", new Run(x -> x.spout(0, 0, 98), x -> x.spout(0, 0, 0), x -> x.spout(0, 0, 99)), x -> x.leans(99), 30);
        Check.due("the last of ten", Run.of(9).then(x -> x.spout(0, 0, 0)).set(1, 0, 99), x -> x.leans(99), 30);
        Check.sentence("Promise 33", "LEANS; NONE if c can't be.");
        for (int c : Run.beyond(1, 99)) {
            Check.due("leans " + c, Run.of(1), x -> x.leans(c), NONE);
        }
        Check.due("leans 0 of no spout", new Run(), x -> x.leans(0), NONE);
    }

    private static Run reign(int... minutes) {
        Run r = new Run();
        for (int m : minutes) {
            r = r.then(x -> x.chapter(m));
        }
        return r;
    }

    private static void chapters() {
        Check.sentence("Terms 4", "REIGN: up to 12 told chapters 1 .. 60 (minutes)");
        for (int n = 0; n <= 12; n++) {
            Check.due("a chapter behind " + n, new Run().times(n, x -> x.chapter(60)), x -> x.chapter(1), n < 12 ? n + 1 : NONE);
        }
        Check.due("1 minute", new Run(), x -> x.chapter(1), 1);
        Check.due("60 minutes", new Run(), x -> x.chapter(60), 1);
        Check.due("0 minutes", new Run(), x -> x.chapter(0), NONE);
        Check.due("61 minutes", new Run(), x -> x.chapter(61), NONE);
        Check.due("-2 minutes", new Run(), x -> x.chapter(-2), NONE);
        Check.sentence("Promise 34", "REIGN: a chapter more (NONE: none is then): how many");
        Run none = new Run().times(12, x -> x.chapter(60)).then(x -> x.chapter(NONE));
        Check.due("NONE", none.last(), 0);
        Check.due("none is then", none, x -> x.read(1, 0), NONE);
        Check.due("the first then", none, x -> x.chapter(60), 1);
        Check.due("NONE of none", new Run(), x -> x.chapter(NONE), 0);
    }

    private static void reads(Run r, int k, int sum, int second) {
        Check.due("read in " + k, r, x -> x.read(k, 0), sum);
        Check.due("where the second of " + k + " begins", r, x -> x.read(k, 1), second);
    }

    private static void read() {
        Check.sentence("Terms 4", "READ in k (1 .. 6) storms, in order, none parted, each storm one at least: the least greatest sum of a storm;"
            + " where the second storm begins (of several ways the first, storm by storm the earlier).");
        Run twelve = new Run().times(12, x -> x.chapter(60));
        reads(twelve, 1, 720, NONE);
        reads(twelve, 2, 360, 6);
        reads(twelve, 3, 240, 4);
        reads(twelve, 4, 180, 3);
        reads(twelve, 5, 180, 1);
        reads(twelve, 6, 120, 2);
        reads(reign(1), 1, 1, NONE);
        reads(reign(7, 9), 2, 9, 1);
        reads(reign(1, 2, 3, 4, 5, 6), 6, 6, 1);
        reads(reign(1, 1, 1, 60), 2, 60, 3);
        reads(reign(60, 1, 1, 1), 2, 60, 1);
        reads(reign(10, 20, 30, 15), 2, 45, 2);
        reads(reign(10, 20, 30, 15), 3, 30, 2);
        reads(reign(5, 5, 5, 5, 5), 3, 10, 1);
        reads(reign(60, 1, 1, 1, 1, 1, 1), 6, 60, 1);
        reads(reign(10, 1, 1, 1, 1, 1, 1, 1, 1, 1, 1, 10), 3, 10, 1);
        reads(reign(10, 1, 1, 1, 1, 1, 1, 1, 1, 1, 1, 10), 4, 10, 1);
        reads(reign(1, 2, 3, 4, 5, 6, 7, 8, 9, 10, 11, 12), 6, 17, 5);
        Check.sentence("Promise 35", "READ what 0 the sum, 1 where the second storm begins (NONE: one storm). NONE if k can't be (more than chapters), or another what.");
        for (int k : Run.beyond(1, 6)) {
            Check.due("k " + k, twelve, x -> x.read(k, 0), NONE);
            Check.due("k " + k, twelve, x -> x.read(k, 1), NONE);
        }
        reads(new Run(), 1, NONE, NONE);
        reads(reign(7), 2, NONE, NONE);
        reads(reign(1, 2, 3, 4, 5), 6, NONE, NONE);
        Check.due("what 2", twelve, x -> x.read(1, 2), NONE);
        Check.due("what -1", twelve, x -> x.read(1, -1), NONE);
    }

    private static int firstWords(int n) {
        return (1 << n) - 1;
    }

    private static void plays(String how, Run r, int spout, int takes) {
        Check.due(how + ": the spout", r, x -> x.game(0), spout);
        Check.due(how + ": how many", r, x -> x.game(1), takes);
    }

    private static void gameOfOne() {
        Check.sentence("Terms 4", "GAME: from how many WORDS SPOUTS have HEARD two by turns take 1, 2 or 4 of one; who takes the last one of all wins");
        for (int n = 0; n <= 16; n++) {
            // Of 3, 6, 9 .. every taking leaves the other a good one.
            plays("one of " + n, hearing(firstWords(n)), n % 3 == 0 ? NONE : 0, n % 3 == 0 ? NONE : n % 3);
        }
        plays("no spout", new Run(), NONE, NONE);
    }

    private static void gameOfSeveral() {
        Check.sentence("Terms 4", "the SPOUT (of several the least), how many (the fewest) who begins well takes.");
        plays("1 1", hearing(firstWords(1), firstWords(1)), NONE, NONE);
        plays("2 1", hearing(firstWords(2), firstWords(1)), 0, 1);
        plays("1 2", hearing(firstWords(1), firstWords(2)), 1, 1);
        plays("4 2", hearing(firstWords(4), firstWords(2)), 0, 2);
        plays("5 1", hearing(firstWords(5), firstWords(1)), 0, 1);
        plays("3 1", hearing(firstWords(3), firstWords(1)), 0, 2);
        plays("0 0 1", hearing(0, 0, firstWords(1)), 2, 1);
        plays("1 1 1", hearing(firstWords(1), firstWords(1), firstWords(1)), 0, 1);
        plays("1 2 0 and 0", hearing(firstWords(1), firstWords(2), firstWords(3)), 1, 1);
        plays("16 16", hearing(firstWords(16), firstWords(16)), NONE, NONE);
        plays("16 15", hearing(firstWords(16), firstWords(15)), 0, 1);
        Run last = Run.of(10, 1).act(0, 0, 9).days(1);
        plays("the tenth spout", last, 9, 1);
        Check.sentence("Promise 36", "GAME what 0 the SPOUT, 1 how many. NONE if who begins loses, or for another what.");
        Check.due("what 2", last, x -> x.game(2), NONE);
        Check.due("what -1", last, x -> x.game(-1), NONE);
    }
}
