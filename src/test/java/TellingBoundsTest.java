/** The bounds of what there is: what is told of spouts, sitters, jars, and by hand (promises 1 to 6, 12 to 14, 39). */
public final class TellingBoundsTest {
    private static final int NONE = SpoutNews.NONE;

    public static void main(String[] args) {
        theFirstState();
        theCalls();
        states();
        spouts();
        sitters();
        sets();
        actsOnSitters();
        actsOnJars();
        actsOnMouths();
        sightsOfSpouts();
        sightsOfTheRest();
        looks();
        Check.end("TellingBoundsTest");
    }

    private static void theFirstState() {
        Check.sentence("Promise 1", "A bare cathedral.");
        Run bare = new Run();
        for (int i = 0; i <= 12; i++) {
            int what = i;
            Check.due("look " + i, bare, x -> x.look(what), 0);
        }
        Check.sentence("Terms 1", "RAIN 0 .. 9 (0 at first), SAID (an int, 0 at first), WRONG (an int, 0 at first), DAY 0 .. 9999 (0 at first).");
        for (int i = 2; i <= 5; i++) {
            int what = i;
            Check.due("look " + i + " with spouts and sitters", Run.of(10, 1, 2), x -> x.look(what), 0);
        }
        Check.sentence("The constants", "None.");
        Check.due("NONE", NONE, -1);
        Check.sentence("Terms 1", "CAUGHT (a set of WORDS; none, empty at first)");
        for (int i = 0; i < 6; i++) {
            int jar = i;
            Check.due("AT of jar " + i, bare, x -> x.jar(jar, 0), NONE);
            Check.due("CAUGHT of jar " + i, bare, x -> x.jar(jar, 1), 0);
        }
        Check.sentence("Terms 2", "TEXTS (empty at first).");
        for (int i = 8; i <= 11; i++) {
            int what = i;
            Check.due("lines, look " + i, bare, x -> x.look(what), 0);
        }
        Check.sentence("Promise 11", "Of the latest text() what 0 the FAULT (0 without one), 1 its place (NONE).");
        Check.due("fault 0 before any text", bare, x -> x.fault(0), 0);
        Check.due("fault 1 before any text", bare, x -> x.fault(1), NONE);
        Check.sentence("Promise 8", "how many it has.");
        Check.due("the tape is empty at first", bare, x -> x.feed(0, 0, 0, 0, 0), 20);
    }

    private static void theCalls() {
        Check.sentence("The face", "An object is used for at most 512 calls after it has been made");
        Run r = new Run();
        for (int i = 1; i <= 510; i++) {
            int v = i;
            r = r.then(x -> x.state(v));
        }
        Check.due("the 511th call", r, x -> x.state(0), 510);
        Check.due("the 512th call", r.then(x -> x.state(-5)), x -> x.look(7), -5);
        Check.due("the 512th call can still do", Run.of(2, 3).times(508, x -> x.look(0)), x -> Run.bit(x.act(0, 0, 1)), 1);
    }

    private static void states() {
        Check.sentence("Promise 2", "STATE is told: what it was.");
        int[] all = {Integer.MIN_VALUE, -1, 0, 1, Integer.MAX_VALUE};
        for (int v : all) {
            Check.due("state of a new object", new Run(), x -> x.state(v), 0);
            Check.due("what it was", new Run(x -> x.state(v)), x -> x.state(7), v);
            Check.due("look 7", new Run(x -> x.state(v)), x -> x.look(7), v);
        }
        Check.sentence("Terms", "(an int, 0 at first)");
        Check.due("STATE", new Run(), x -> x.look(7), 0);
    }

    private static void spouts() {
        Check.sentence("Terms 1", "STONE 0 .. 5, SIDE 0 .. 3, LEAN 0 .. 99");
        int[][] can = {{0, 0, 0}, {5, 0, 0}, {0, 3, 0}, {0, 0, 99}, {5, 3, 99}};
        for (int[] s : can) {
            Run r = new Run(x -> x.spout(s[0], s[1], s[2]));
            Check.due("spout", r.last(), 0);
            Check.due("STONE", r, x -> x.of(0, 0), s[0]);
            Check.due("SIDE", r, x -> x.of(0, 1), s[1]);
            Check.due("LEAN", r, x -> x.of(0, 2), s[2]);
        }
        Check.sentence("Terms 1", "MOUTH 0 open, 1 mended, 2 leaded (0 at first)");
        Check.due("MOUTH", Run.of(1), x -> x.of(0, 3), 0);
        Check.sentence("Terms 1", "HEARD (a row of WORDS, 20 at most, each once; empty at first)");
        Check.due("how many HEARD", Run.of(1), x -> x.of(0, 4), 0);
        Check.due("no first WORD", Run.of(1), x -> x.of(0, 20), NONE - 1);
        Check.sentence("Terms 1", "DRY 0 .. 999 days (0 at first)");
        Check.due("DRY", Run.of(1), x -> x.of(0, 5), 0);
        Check.sentence("Promise 3", "A SPOUT: the number; NONE if one can't be, or there are ten.");
        for (int n = 0; n < 10; n++) {
            Check.due("spout behind " + n, Run.of(n), x -> x.spout(0, 0, 0), n);
        }
        Check.due("spout behind 10", Run.of(10), x -> x.spout(0, 0, 0), NONE);
        Check.due("SPOUTS", Run.of(10), x -> x.look(0), 10);
        Check.due("one that can't be takes no number", new Run(x -> x.spout(6, 0, 0)), x -> x.spout(5, 0, 0), 0);
        Check.sentence("Terms 1", "SPOUTS 0 .. 9 as they come");
        for (int n = -1; n <= 10; n++) {
            int spout = n;
            Check.due("LEAN of " + n + " among ten", Run.of(10), x -> x.of(spout, 2), n < 0 || n > 9 ? NONE - 1 : n * 10);
        }
    }

    private static void sitters() {
        Check.sentence("Terms 1", "KNOWS (a set of WORDS), AT a SPOUT or none (none at first)");
        for (int knows : new int[] {0, 1, 32768, 65535}) {
            Run r = new Run(x -> x.sitter(knows));
            Check.due("sitter", r.last(), 0);
            Check.due("KNOWS", r, x -> x.who(0, 0), knows);
            Check.due("AT", r, x -> x.who(0, 1), NONE);
        }
        Check.sentence("Promise 4", "A SITTER (a set of WORDS): the number; NONE if one can't be, or there are eight.");
        for (int n = 0; n <= 8; n++) {
            Check.due("sitter behind " + n, Run.of(0, new int[n]), x -> x.sitter(65535), n < 8 ? n : NONE);
        }
        Check.due("SITTERS", Run.of(0, new int[8]), x -> x.look(1), 8);
        Check.due("one that can't be takes no number", new Run(x -> x.sitter(-1)), x -> x.sitter(0), 0);
        Check.sentence("Terms 1", "SITTERS 0 .. 7 as they come");
        for (int n = -1; n <= 8; n++) {
            int sitter = n;
            Check.due("KNOWS of " + n + " among eight", Run.of(0, 9, 8, 7, 6, 5, 4, 3, 2), x -> x.who(sitter, 0), n < 0 || n > 7 ? NONE - 1 : 9 - n);
        }
    }

    private static void sets() {
        Run r = Run.of(10, 1, 2, 3, 4, 5, 6, 7, 8);
        Check.sentence("Promise 5", "What 0 RAIN (who not asked)");
        for (int v : new int[] {0, 9}) {
            for (int who : new int[] {Integer.MIN_VALUE, -1, 99, Integer.MAX_VALUE}) {
                Run s = r.set(0, 0, 5).set(0, who, v);
                Check.due("set RAIN " + v, s.last(), 1);
                Check.due("RAIN", s, x -> x.look(2), v);
            }
        }
        Check.due("RAIN where there is no spout", new Run(), x -> Run.bit(x.set(0, 0, 9)), 1);
        Check.sentence("Promise 5", "1 LEAN, 2 DRY of SPOUT who, 3 KNOWS of SITTER who: true");
        for (int who : new int[] {0, 9}) {
            for (int v : new int[] {0, 99}) {
                Check.due("set LEAN", r, x -> Run.bit(x.set(1, who, v)), 1);
                Check.due("LEAN", r.set(1, who, 50).set(1, who, v), x -> x.of(who, 2), v);
            }
            for (int v : new int[] {0, 999}) {
                Check.due("set DRY", r, x -> Run.bit(x.set(2, who, v)), 1);
                Check.due("DRY", r.set(2, who, 50).set(2, who, v), x -> x.of(who, 5), v);
            }
        }
        for (int who : new int[] {0, 7}) {
            for (int v : new int[] {0, 65535}) {
                Check.due("set KNOWS", r, x -> Run.bit(x.set(3, who, v)), 1);
                Check.due("KNOWS", r.set(3, who, v), x -> x.who(who, 0), v);
            }
        }
        Check.due("LEAN of the next stays", r.set(1, 8, 1), x -> x.of(9, 2), 90);
        Check.due("DRY of the next stays", r.set(2, 8, 1), x -> x.of(9, 5), 0);
        Check.due("KNOWS of the next stays", r.set(3, 6, 1), x -> x.who(7, 0), 8);
    }

    private static void actsOnSitters() {
        Run r = Run.of(10, 1, 2, 3, 4, 5, 6, 7, 8);
        Check.sentence("Promise 6", "What 0 to SEAT a SITTER AT SPOUT v");
        for (int who : new int[] {0, 7}) {
            for (int v : new int[] {0, 9}) {
                Check.due("seat", r, x -> Run.bit(x.act(0, who, v)), 1);
                Check.due("AT", r.act(0, who, 4).act(0, who, v), x -> x.who(who, 1), v);
            }
        }
        Check.due("several AT one", r.act(0, 0, 9).act(0, 7, 9), x -> x.who(0, 1), 9);
        Check.sentence("Promise 6", "1 to RISE");
        for (int v : new int[] {Integer.MIN_VALUE, -1, 10, Integer.MAX_VALUE}) {
            Check.due("rise, v not asked", r.act(0, 7, 9), x -> Run.bit(x.act(1, 7, v)), 1);
        }
        Check.due("AT none", r.act(0, 7, 9).act(1, 7, 0), x -> x.who(7, 1), NONE);
        Check.sentence("Promise 6", "6 to TELL a SITTER WORD v");
        for (int v : new int[] {0, 15}) {
            Check.due("tell", r, x -> Run.bit(x.act(6, 7, v)), 1);
            Check.due("KNOWS", r.act(6, 7, v), x -> x.who(7, 0), 8 | 1 << v);
            Check.due("told again", r.act(6, 7, v).act(6, 7, v), x -> x.who(7, 0), 8 | 1 << v);
        }
        Check.due("knows all", r.set(3, 0, 65535).act(6, 0, 15), x -> x.who(0, 0), 65535);
    }

    private static void actsOnJars() {
        Run r = Run.of(10, 1);
        Check.sentence("Promise 6", "2 a JAR AT SPOUT v");
        for (int who : new int[] {0, 5}) {
            for (int v : new int[] {0, 9}) {
                Check.due("jar", r, x -> Run.bit(x.act(2, who, v)), 1);
                Check.due("AT", r.act(2, who, 4).act(2, who, v), x -> x.jar(who, 0), v);
            }
        }
        Check.sentence("Terms 1", "JARS 0 .. 5: AT a SPOUT or none");
        for (int n = -1; n <= 6; n++) {
            int jar = n;
            Check.due("AT of jar " + n, r.act(2, n, 9), x -> x.jar(jar, 0), n < 0 || n > 5 ? NONE - 1 : 9);
        }
        Check.sentence("Promise 6", "7 to EMPTY a JAR (v else not asked): true");
        Run caught = r.act(0, 0, 0).act(2, 0, 0).act(2, 5, 0).days(1).set(0, 0, 1).text(0, "slip 0;").days(1);
        Check.due("CAUGHT", caught, x -> x.jar(5, 1), 1);
        for (int v : new int[] {Integer.MIN_VALUE, -1, 0, Integer.MAX_VALUE}) {
            Check.due("empty", caught, x -> Run.bit(x.act(7, 5, v)), 1);
            Check.due("CAUGHT empty", caught.act(7, 5, v), x -> x.jar(5, 1), 0);
        }
        Check.due("it stays AT", caught.act(7, 5, 0), x -> x.jar(5, 0), 0);
        Check.due("the other is as it was", caught.act(7, 5, 0), x -> x.jar(0, 1), 1);
        Check.due("moved, what it caught is in it", caught.act(2, 5, 9), x -> x.jar(5, 1), 1);
        Check.due("an empty one can be emptied, without a spout too", new Run(), x -> Run.bit(x.act(7, 5, 0)), 1);
    }

    private static void actsOnMouths() {
        Run r = Run.of(10);
        Check.sentence("Promise 6", "3 to MEND, 4 to LEAD, 5 to OPEN a SPOUT");
        int[] mouth = {1, 2, 0};
        for (int who : new int[] {0, 9}) {
            for (int before = 3; before <= 5; before++) {
                for (int what = 3; what <= 5; what++) {
                    int deed = what;
                    Run s = r.act(before, who, 0);
                    Check.due("act " + what, s, x -> Run.bit(x.act(deed, who, Integer.MIN_VALUE)), 1);
                    Check.due("act " + what + ", v not asked", s, x -> Run.bit(x.act(deed, who, Integer.MAX_VALUE)), 1);
                    Check.due("MOUTH", s.act(what, who, -1), x -> x.of(who, 3), mouth[what - 3]);
                }
            }
        }
        Check.due("the next stays open", r.act(4, 8, 0), x -> x.of(9, 3), 0);
    }

    private static void sightsOfSpouts() {
        Check.sentence("Promise 12", "6 the one it is led into (NONE)");
        Run r = Run.of(10, 0xffff).text(1, "spout 0 into 9;spout 9 into 0;");
        Check.due("of 0", r, x -> x.of(0, 6), 9);
        Check.due("of 9", r, x -> x.of(9, 6), 0);
        Check.due("of 8", r, x -> x.of(8, 6), NONE);
        Check.sentence("Promise 12", "20 + i the i-th WORD");
        Run heard = r.text(0, "hears 9;").act(0, 0, 9).days(2);
        Check.due("how many", heard, x -> x.of(9, 4), 16);
        for (int i = -1; i < 20; i++) {
            int what = 20 + i;
            Check.due("of 9, " + what, heard, x -> x.of(9, what), i < 0 || i > 15 ? NONE - 1 : i);
        }
        Check.due("the first of an empty row", heard, x -> x.of(0, 20), NONE - 1);
        Check.sentence("Promise 12", "40 + w slip of WORD w.");
        Run slips = r.text(0, "slip 15+word;");
        Check.due("39", slips, x -> x.of(9, 39), NONE - 1);
        Check.due("40", slips, x -> x.of(9, 40), 15);
        Check.due("55", slips, x -> x.of(9, 55), 30);
        Check.due("56", slips, x -> x.of(9, 56), NONE - 1);
        Check.sentence("Promise 12", "7 hears, 8 jet");
        Check.due("hears", r.text(0, "hears 7;jet 3;"), x -> x.of(9, 7), 7);
        Check.due("jet", r.text(0, "hears 7;jet 3;"), x -> x.of(9, 8), 3);
        Check.due("9", r, x -> x.of(9, 9), NONE - 1);
        Check.due("-1", r, x -> x.of(9, -1), NONE - 1);
        Check.due("of 10", r, x -> x.of(10, 0), NONE - 1);
        Check.due("of -1", r, x -> x.of(-1, 0), NONE - 1);
    }

    private static void sightsOfTheRest() {
        Run r = Run.of(10, 1, 2, 3, 4, 5, 6, 7, 65535);
        Check.sentence("Promise 13", "Of a SITTER what 0 KNOWS, 1 AT (NONE).");
        Check.due("KNOWS of 0", r, x -> x.who(0, 0), 1);
        Check.due("KNOWS of 7", r, x -> x.who(7, 0), 65535);
        Check.due("AT none", r, x -> x.who(7, 1), NONE);
        Check.due("AT", r.act(0, 7, 9), x -> x.who(7, 1), 9);
        Check.due("of 8", r, x -> x.who(8, 1), NONE - 1);
        Check.due("of -1", r, x -> x.who(-1, 1), NONE - 1);
        Check.due("what 2", r, x -> x.who(7, 2), NONE - 1);
        Check.due("what -1", r, x -> x.who(7, -1), NONE - 1);
        Check.sentence("Promise 14", "Of a JAR what 0 AT (NONE), 1 CAUGHT.");
        Check.due("AT none", r, x -> x.jar(5, 0), NONE);
        Check.due("AT", r.act(2, 5, 9), x -> x.jar(5, 0), 9);
        Check.due("jar 6", r, x -> x.jar(6, 1), NONE - 1);
        Check.due("jar -1", r, x -> x.jar(-1, 1), NONE - 1);
        Check.due("what 2", r, x -> x.jar(5, 2), NONE - 1);
        Check.due("what -1", r, x -> x.jar(5, -1), NONE - 1);
    }

    private static void looks() {
        Check.sentence("Promise 39", "What 0 SPOUTS, 1 SITTERS, 2 RAIN, 3 SAID, 4 WRONG, 5 DAY, 6 lines of THE BOOK, 7 STATE, 8 lines of THE LAW, 9 of GUTTERS,"
            + " 10 of WEATHER, 11 of A PLAN, 12 what can be undone.");
        Run r = Run.of(2, 7).act(0, 0, 0).text(0, "slip 1000;").text(1, "spout 0 into 1;spout 0 into 1;")
            .text(2, "day 1 rain 3;day 1 rain 3;day 1 rain 3;").text(3, "on 5 rise 0;on 5 rise 0;on 5 rise 0;on 5 rise 0;").then(x -> x.state(0)).days(2);
        // Two words heard, both said wrong and led on.
        long[] due = {2, 1, 3, 2, 2, 2, 6, 1196435762, 1, 2, 3, 4, 2};
        for (int i = 0; i < due.length; i++) {
            int what = i;
            Check.due("look " + i, r, x -> x.look(what), due[i]);
        }
        Check.due("look 13", r, x -> x.look(13), NONE);
        Check.due("look -1", r, x -> x.look(-1), NONE);
    }
}
