/** The tape, the four texts, their tokens, lines and faults, and what the law tells (promises 8 to 12 and 15). */
public final class TextBoundsTest {
    private static final int NONE = SpoutNews.NONE;
    private static final String[] LINE = {"jet 1;", "spout 0 into 1;", "day 1 rain 1;", "on 1 rise 0;"};
    /** The text 0 to 3 in look(). */
    private static final int FIRST_LINES = 8;

    public static void main(String[] args) {
        theTape();
        theEnd();
        taken();
        sixteenLines();
        letters();
        digits();
        signsAndBlanks();
        endsTooEarly();
        firstByPlace();
        numbersOfTheLaw();
        numbersOfGutters();
        numbersOfWeather();
        numbersOfThePlan();
        openAtOnce();
        grammarOfTheLaw();
        faultsAreOfTheLatest();
        guttersLast();
        weatherFirst();
        lawDefaults();
        lawIsHeld();
        lawWraps();
        lawFacts();
        lawFirstLine();
        Check.end("TextBoundsTest");
    }

    private static Run place() {
        return Run.of(10, 1, 2, 3, 4, 5, 6, 7, 8);
    }

    private static void fine(Run r, int k, String text, int lines) {
        Run told = r.text(k, text);
        Check.due("text " + k + " '" + text + "'", told.last(), lines);
        Check.due("its lines, '" + text + "'", told, x -> x.look(FIRST_LINES + k), lines);
        Check.due("fault 0 of '" + text + "'", told, x -> x.fault(0), 0);
        Check.due("fault 1 of '" + text + "'", told, x -> x.fault(1), NONE);
    }

    private static void fault(Run r, int k, String text, int kind, int at) {
        Run told = r.text(k, LINE[k] + LINE[k]).text(k, text);
        Check.due("text " + k + " '" + text + "'", told.last(), NONE);
        Check.due("fault 0 of '" + text + "'", told, x -> x.fault(0), kind);
        Check.due("fault 1 of '" + text + "'", told, x -> x.fault(1), at);
        Check.due("it stays as it was, '" + text + "'", told, x -> x.look(FIRST_LINES + k), 2);
        Check.due("the tape is empty, '" + text + "'", told.tapeLength(), 0);
    }

    private static void theTape() {
        Check.sentence("Promise 8", "Twenty bytes come behind the TAPE, of each number the highest first: how many it has.");
        for (int n = 0; n < 20; n++) {
            Check.due("feed", new Run().times(n, x -> x.feed(0, 0, 0, 0, 0)), x -> x.feed(-1, -1, -1, -1, -1), 20 * n + 20);
        }
        Run fed = Run.of(1).then(x -> x.feed(0x6a657420, 0x333b6865, 0x61727320, 0x353b736c, 0x69702039), x -> x.feed(0x393b2020, 0, 0, 0, 0), x -> Run.bit(x.end(22)));
        Check.due("'jet 3;hears 5;slip 99;'", fed, x -> x.text(0), 3);
        Check.due("jet", fed.then(x -> x.text(0)), x -> x.of(0, 8), 3);
        Check.due("slip", fed.then(x -> x.text(0)), x -> x.of(0, 40), 99);
        Check.sentence("Promise 8", "NONE, and nothing comes, if there would be more than 400.");
        Check.due("to 400", new Run().tape(" ".repeat(380)), x -> x.feed(0, 0, 0, 0, 0), 400);
        Check.due("to 401", new Run().tape(" ".repeat(381)), x -> x.feed(0, 0, 0, 0, 0), NONE);
        Check.due("to 420", new Run().tape(" ".repeat(400)), x -> x.feed(0, 0, 0, 0, 0), NONE);
        Check.due("still 381", new Run().tape(" ".repeat(381)).then(x -> x.feed(0, 0, 0, 0, 0)).tapeLength(), 381);
        Check.due("all of the tape is read", Run.of(1).text(0, " ".repeat(394) + "jet 1;").last(), 1);
    }

    private static void theEnd() {
        Check.sentence("Promise 9", "The TAPE has its first n bytes alone: true");
        Run full = new Run().tape(" ".repeat(400));
        for (int n : new int[] {0, 1, 399, 400}) {
            Check.due("end " + n, full, x -> Run.bit(x.end(n)), 1);
            Check.due("length then", full.then(x -> Run.bit(x.end(n))).tapeLength(), n);
        }
        Check.due("end 0 of none", new Run(), x -> Run.bit(x.end(0)), 1);
        Check.due("the first ones", Run.of(1).tape("jet 1;jet 2;").then(x -> Run.bit(x.end(6))), x -> x.text(0), 1);
        Check.due("what was cut is gone", Run.of(1).tape("jet 1;jet 2;").then(x -> Run.bit(x.end(6))).then(x -> Run.bit(x.end(12))).last(), 0);
        Check.due("feed comes behind the first ones", Run.of(1).tape("jet 1;jet").then(x -> Run.bit(x.end(6))), x -> x.feed(0, 0, 0, 0, 0), 26);
    }

    private static void taken() {
        Check.sentence("Promise 10", "The TAPE, empty then, is TEXT k: how many lines.");
        for (int k = 0; k < 4; k++) {
            fine(place(), k, "", 0);
            fine(place(), k, " \n ", 0);
            fine(place(), k, " ".repeat(400), 0);
            fine(place(), k, LINE[k], 1);
            Check.due("the tape is empty then", place().text(k, LINE[k]).tapeLength(), 0);
            fine(place().text(k, LINE[k].repeat(16)), k, LINE[k], 1);
            fine(place().text(k, LINE[k].repeat(16)), k, "", 0);
        }
        Check.due("an empty law is none", place().text(0, "hears 9;").text(0, ""), x -> x.of(0, 7), 2);
        Check.due("empty gutters are none", place().text(1, LINE[1]).text(1, ""), x -> x.of(0, 6), NONE);
        Check.due("empty weather is none", place().text(2, LINE[2]).text(2, ""), x -> x.weather(1), NONE);
        Check.due("an empty plan is none", place().act(0, 0, 0).text(3, "on 0 rise 0;").text(3, "").days(1), x -> x.who(0, 1), 0);
        Check.sentence("Promise 10", "NONE: no such one (fault() tells 0)");
        for (int k : Run.beyond(0, 3)) {
            Run r = place().text(0, "?").text(k, "?");
            Check.due("text " + k, r.last(), NONE);
            Check.due("fault 0", r, x -> x.fault(0), 0);
            Check.due("fault 1", r, x -> x.fault(1), NONE);
        }
    }

    private static void sixteenLines() {
        Check.sentence("Terms 2", "16 lines of each at most.");
        for (int k = 0; k < 4; k++) {
            fine(place(), k, LINE[k].repeat(16), 16);
        }
        Check.sentence("Terms 2", "3 (at its KEYWORD) the 17th line of a text");
        for (int k = 0; k < 4; k++) {
            int at = 16 * LINE[k].length();
            fault(place(), k, LINE[k].repeat(17), 3, at);
            fault(place(), k, LINE[k].repeat(16) + " \n" + LINE[k], 3, at + 2);
            fault(place(), k, LINE[k].repeat(17) + "?", 3, at);
            fault(place(), k, LINE[k].repeat(16) + LINE[k].substring(0, LINE[k].indexOf(' ')), 3, at);
        }
        fault(place(), 0, LINE[0].repeat(16) + "hears", 3, 96);
        fault(place(), 0, LINE[0].repeat(16) + "slip", 3, 96);
        Check.sentence("Terms 2", "FAULTS, the first by its place, at one place the least");
        for (int k = 0; k < 4; k++) {
            int at = 16 * LINE[k].length();
            fault(place(), k, LINE[k].repeat(16) + "?", 1, at);
            fault(place(), k, LINE[k].repeat(16) + ";", 1, at);
            fault(place(), k, LINE[k].repeat(16) + "7", 1, at);
            fault(place(), k, LINE[k].repeat(16) + "at", 1, at);
            fault(place(), k, LINE[k].repeat(15) + "?" + LINE[k].repeat(2), 1, 15 * LINE[k].length());
        }
        Check.sentence("Terms 2", "16 lines of each at most.");
        Check.due("the 16th line of the law holds", place().text(0, "jet 1 when 1=2;".repeat(15) + "jet 7;"), x -> x.of(0, 8), 7);
        Check.due("the 16th gutter holds", place().text(1, LINE[1].repeat(15) + "spout 9 into 8;"), x -> x.of(9, 6), 8);
        Check.due("the 16th weather holds", place().text(2, LINE[2].repeat(15) + "day 9 rain 8;"), x -> x.weather(9), 8);
        Check.due("the 16th of a plan holds", place().text(3, LINE[3].repeat(15) + "on 0 seat 7 at 9;").days(1), x -> x.who(7, 1), 9);
    }

    private static void letters() {
        Check.sentence("Terms 2", "letters as many as stand together are KEYWORDS (those told here for that text) or none");
        fault(place(), 0, "jetjet 1;", 1, 0);
        fault(place(), 0, "je 1;", 1, 0);
        fault(place(), 0, "Jet 1;", 1, 0);
        fault(place(), 0, "JET 1;", 1, 0);
        fault(place(), 0, "je t 1;", 1, 0);
        for (String letter : new String[] {"a", "z", "A", "Z"}) {
            fault(place(), 0, "jet" + letter + " 1;", 1, 0);
            fault(place(), 0, "jet 1 " + letter + "when 1=1;", 1, 6);
        }
        for (String sign : new String[] {"@", "[", "`", "{"}) {
            fault(place(), 0, "jet" + sign + " 1;", 1, 3);
        }
        fault(place(), 0, "jet rainn;", 1, 4);
        fault(place(), 0, "jet 1 whenever 1=1;", 1, 6);
        fault(place(), 0, "jet 1 when 1=1 ore 1=1;", 1, 15);
        fine(place(), 0, "jet1when1=1or2=2and3=3;", 1);
        fine(place(), 3, "on0seat0at1;", 1);
        String[] own = {"hears jet slip when or and not stone side lean mouth rain heard dry word day", "spout into", "day rain",
            "on seat at rise jar mend lead open tell"};
        for (int k = 0; k < 4; k++) {
            for (int other = 0; other < 4; other++) {
                for (String word : own[other].split(" ")) {
                    if (other != k && !(" " + own[k] + " ").contains(" " + word + " ")) {
                        fault(place(), k, word, 1, 0);
                        fault(place(), k, LINE[k] + " " + word + " 0", 1, LINE[k].length() + 1);
                    }
                }
            }
        }
        fault(place(), 3, "on 0 empty 0;", 1, 5);
    }

    private static void digits() {
        Check.sentence("Terms 2", "digits as many as stand together NUMBERS of 1 to 4 digits or none");
        fine(place(), 0, "jet 0;", 1);
        fine(place(), 0, "jet 9999;", 1);
        fine(place(), 0, "jet 0001;", 1);
        fault(place(), 0, "jet 00001;", 1, 4);
        fault(place(), 0, "jet 10000;", 1, 4);
        fault(place(), 0, "jet 99999999999;", 1, 4);
        fault(place(), 0, "jet 1/00001;", 1, 6);
        fault(place(), 1, "spout 00000 into 1;", 1, 6);
        fault(place(), 2, "day 00001 rain 1;", 1, 4);
        fault(place(), 2, "day 1 rain 00001;", 1, 11);
        fault(place(), 3, "on 00001 rise 0;", 1, 3);
        fine(place(), 1, "spout 0000 into 0009;", 1);
        fine(place(), 2, "day 0999 rain 0009;", 1);
        fault(place(), 0, "jet 1 2;", 1, 6);
        Check.due("four digits are one number", place().text(0, "slip 0999;"), x -> x.of(0, 40), 999);
    }

    private static void signsAndBlanks() {
        Check.sentence("Terms 2", "; + - * / ( ) < = > . Blanks (32, 10) between.");
        for (int sign = 0; sign < 256; sign++) {
            String text = "jet 1" + (char) sign + ";";
            if (sign == 32 || sign == 10 || sign >= '0' && sign <= '9') {
                fine(place(), 0, text, 1);
            } else {
                // A second ; or the want of a right side is seen one place later.
                fault(place(), 0, text, 1, ";+-*/".indexOf(sign) >= 0 ? 6 : 5);
            }
        }
        fine(place(), 0, "\n\njet\n1\n;\n", 1);
        fine(place(), 0, " jet 1 + 2 * 3 / 4 - 5 when ( 1 < 2 or 1 = 2 ) and 2 > 1 ; ", 1);
        fine(place(), 0, "jet 1+2*3/4-5when(1<2or 1=2)and 2>1;", 1);
        for (int k = 1; k < 4; k++) {
            for (char sign : "+-*/()<=>.?".toCharArray()) {
                fault(place(), k, LINE[k] + sign, 1, LINE[k].length());
                fault(place(), k, LINE[k].replace(";", sign + ";"), 1, LINE[k].length() - 1);
            }
        }
    }

    /** Each text cut behind each of its tokens, with and without blanks behind. */
    private static void endsTooEarly() {
        Check.sentence("Terms 2", "1 what can't stand there (the end: the text's length).");
        String[] whole = {"jet 1 + 2 * 3 / 4 when not ( 1 < 2 or 1 = 2 ) and 2 > 1 ;", "spout 0 into 1 ;", "day 1 rain 1 ;", "on 1 seat 0 at 1 ;"};
        for (int k = 0; k < 4; k++) {
            for (int i = whole[k].indexOf(' '); i >= 0; i = whole[k].indexOf(' ', i + 1)) {
                String cut = whole[k].substring(0, i);
                fault(place(), k, cut, 1, i);
                fault(place(), k, cut + " \n ", 1, i + 3);
                fault(place(), k, LINE[k] + cut, 1, LINE[k].length() + i);
            }
        }
        for (String cut : new String[] {"on 1 rise 0", "on 1 jar 0 at", "on 1 mend", "on 1 lead 0", "on 1 open", "on 1 tell 0", "on 1 tell 0 1"}) {
            fault(place(), 3, cut, 1, cut.length());
        }
        String long400 = "jet 1" + " ".repeat(395);
        fault(place(), 0, long400, 1, 400);
        fault(place(), 0, " ".repeat(399) + "?", 1, 399);
        for (int k = 0; k < 4; k++) {
            fault(place(), k, ";".repeat(400), 1, 0);
            fault(place(), k, "9 ".repeat(200), 1, 0);
        }
    }

    private static void firstByPlace() {
        Check.sentence("Terms 2", "FAULTS, the first by its place, at one place the least");
        fault(place(), 0, "jet 1/0;?", 2, 6);
        fault(place(), 0, "jet 1?/0;", 1, 5);
        fault(place(), 0, "jet 1/0 when ((((((((((1=1;", 2, 6);
        fault(place(), 0, "jet 1 when (((((((((1/0=1;", 3, 19);
        fault(place(), 0, "jet 1 when ((((((((1/0=1;", 2, 21);
        fault(Run.of(2, 1), 1, "spout 5 into 5;", 2, 6);
        fault(place(), 1, "spout 5 into 5?", 2, 13);
        fault(place(), 2, "day 1000 rain 10;", 2, 4);
        fault(place(), 2, "day 1000 rain 10?", 2, 4);
        fault(place(), 2, "day 999 rain 10?", 2, 13);
        fault(place(), 3, "on 1000 rise 8;", 2, 3);
        fault(place(), 3, "on 999 seat 8 at 10;", 2, 12);
        fault(place(), 3, "on 999 seat 8 on 10;", 2, 12);
        fault(place(), 3, "on 999 seat 7 on 10;", 1, 14);
    }

    private static void numbersOfTheLaw() {
        Check.sentence("Terms 2", "2 (at the NUMBER) a part by 0");
        fault(place(), 0, "jet 1/0;", 2, 6);
        fault(place(), 0, "jet 1/ 0000;", 2, 7);
        fault(place(), 0, "jet 1*2/3/0;", 2, 10);
        fault(place(), 0, "jet 1 when 1/0=1;", 2, 13);
        fault(place(), 0, "jet 1 when 1=1/0;", 2, 15);
        fine(place(), 0, "jet 1/1;", 1);
        fine(place(), 0, "jet 1/9999;", 1);
        fine(place(), 0, "jet 0/1;", 1);
        fine(place(), 0, "jet 1*0;", 1);
        fault(place(), 0, "jet 1/rain;", 1, 6);
        fault(place(), 0, "jet 1/(2);", 1, 6);
    }

    private static void numbersOfGutters() {
        Check.sentence("Terms 2", "a SPOUT, a SITTER that there is not; the same SPOUT again (of GUTTERS).");
        fine(place(), 1, "spout 0 into 9;spout 9 into 0;", 2);
        fault(place(), 1, "spout 10 into 0;", 2, 6);
        fault(place(), 1, "spout 9999 into 0;", 2, 6);
        fault(place(), 1, "spout 0 into 10;", 2, 13);
        fault(Run.of(9), 1, "spout 9 into 0;", 2, 6);
        fault(Run.of(9), 1, "spout 0 into 9;", 2, 13);
        Check.due("no spout 0", new Run().text(1, "spout 0 into 1;"), x -> x.fault(0), 2);
        Check.due("one spout alone has no gutter", Run.of(1).text(1, "spout 0 into 0;"), x -> x.fault(1), 13);
        Check.sentence("Terms 2", "1 GUTTERS = {spout SPOUT into SPOUT ;} (unlike;");
        fault(place(), 1, "spout 0 into 0;", 2, 13);
        fault(place(), 1, "spout 9 into 0009;", 2, 13);
        fault(place(), 1, "spout 0 into 1;spout 1 into 1;", 2, 28);
    }

    private static void numbersOfWeather() {
        Check.sentence("Terms 2", "(DAY 0 .. 999, N 0 .. 9;");
        fine(place(), 2, "day 0 rain 0;day 999 rain 9;", 2);
        Check.sentence("Terms 2", "one beyond its bounds;");
        fault(place(), 2, "day 1000 rain 0;", 2, 4);
        fault(place(), 2, "day 9999 rain 0;", 2, 4);
        fault(place(), 2, "day 0 rain 10;", 2, 11);
        fault(place(), 2, "day 0 rain 9999;", 2, 11);
        fault(place(), 2, "day -1 rain 0;", 1, 4);
        Check.sentence("Promise 15", "RAIN by WEATHER for a DAY; NONE if there is no line, or no such DAY (0 .. 9999).");
        Run told = place().text(2, "day 0 rain 0;day 999 rain 9;");
        Check.due("weather 0", told, x -> x.weather(0), 0);
        Check.due("weather 1", told, x -> x.weather(1), NONE);
        Check.due("weather 998", told, x -> x.weather(998), NONE);
        Check.due("weather 999", told, x -> x.weather(999), 9);
        Check.due("weather 1000", told, x -> x.weather(1000), NONE);
        Check.due("weather 9999", told, x -> x.weather(9999), NONE);
        Check.due("weather 10000", told, x -> x.weather(10000), NONE);
        Check.due("weather -1", told, x -> x.weather(-1), NONE);
        Check.due("without a text", place(), x -> x.weather(0), NONE);
        Check.due("what was is told too", told.days(5), x -> x.weather(0), 0);
    }

    private static void numbersOfThePlan() {
        Check.sentence("Terms 2", "(DAY 0 .. 999, JAR 0 .. 5.)");
        fine(place(), 3, "on 0 rise 0;on 999 rise 7;", 2);
        fault(place(), 3, "on 1000 rise 0;", 2, 3);
        fine(place(), 3, "on 0 jar 0 at 0;on 0 jar 5 at 9;", 2);
        fault(place(), 3, "on 0 jar 6 at 0;", 2, 9);
        fault(place(), 3, "on 0 jar 5 at 10;", 2, 14);
        Check.sentence("Terms 2", "a SPOUT, a SITTER that there is not;");
        fine(place(), 3, "on 0 seat 0 at 0;on 0 seat 7 at 9;", 2);
        fault(place(), 3, "on 0 seat 8 at 9;", 2, 10);
        fault(place(), 3, "on 0 seat 7 at 10;", 2, 15);
        fault(place(), 3, "on 0 rise 8;", 2, 10);
        for (String deed : new String[] {"mend", "lead", "open"}) {
            fine(place(), 3, "on 0 " + deed + " 0;on 0 " + deed + " 9;", 2);
            fault(place(), 3, "on 0 " + deed + " 10;", 2, 10);
            fault(Run.of(9, 1), 3, "on 0 " + deed + " 9;", 2, 10);
        }
        fault(Run.of(9, 1), 3, "on 0 jar 0 at 9;", 2, 14);
        fault(Run.of(9, 1), 3, "on 0 seat 1 at 0;", 2, 10);
        fault(Run.of(9, 1), 3, "on 0 seat 0 at 9;", 2, 15);
        Check.sentence("Terms 1", "WORDS 0 .. 15.");
        fine(place(), 3, "on 0 tell 0 0;on 0 tell 7 15;", 2);
        fault(place(), 3, "on 0 tell 7 16;", 2, 12);
        fault(place(), 3, "on 0 tell 8 0;", 2, 10);
        Check.due("no sitter", Run.of(1).text(3, "on 0 rise 0;"), x -> x.fault(1), 10);
        Check.due("no spout", Run.of(0, 1).text(3, "on 0 mend 0;"), x -> x.fault(1), 10);
        Check.due("no spout for a jar", Run.of(0, 1).text(3, "on 0 jar 0 at 0;"), x -> x.fault(1), 14);
    }

    private static void openAtOnce() {
        Check.sentence("Terms 2", "(at it) the 9th ( or not that is open.");
        fine(place(), 0, "jet 1 when " + "(".repeat(8) + "1=1" + ")".repeat(8) + ";", 1);
        fault(place(), 0, "jet 1 when " + "(".repeat(9) + "1=1" + ")".repeat(9) + ";", 3, 19);
        fine(place(), 0, "jet 1 when " + "not ".repeat(8) + "1=1;", 1);
        fault(place(), 0, "jet 1 when " + "not ".repeat(9) + "1=1;", 3, 43);
        fault(place(), 0, "jet 1 when " + "not ".repeat(8) + "(1=1);", 3, 43);
        fault(place(), 0, "jet 1 when " + "(".repeat(8) + "not 1=1" + ")".repeat(8) + ";", 3, 19);
        fine(place(), 0, "jet 1 when not(not(not(not(1=1))));", 1);
        fault(place(), 0, "jet 1 when not(not(not(not(not 1=1))));", 3, 27);
        // Those that are closed again do not count.
        fine(place(), 0, "jet 1 when " + "(".repeat(8) + "1=1" + ")".repeat(8) + " and " + "(".repeat(8) + "1=1" + ")".repeat(8) + ";", 1);
        fine(place(), 0, "jet 1 when " + "not ".repeat(8) + "1=1 or " + "not ".repeat(8) + "1=1;", 1);
        fine(place(), 0, "jet 1 when " + "(".repeat(7) + "not 1=1 and not 1=1 or (1=1) and (1=1)" + ")".repeat(7) + ";", 1);
        fault(place(), 0, "jet 1 when " + "(".repeat(7) + "not 1=1 and not 1=1 or (1=1) and ((1=1))" + ")".repeat(7) + ";", 3, 52);
        fine(place(), 0, ("jet 1 when " + "not ".repeat(8) + "1=1;").repeat(8), 8);
        fault(place(), 0, "jet 1 when " + "(".repeat(8) + "1=1" + ")".repeat(7) + ";", 1, 29);
        fault(place(), 0, "jet 1 when " + "(".repeat(8) + "1=1" + ")".repeat(9) + ";", 1, 30);
        Run broken = place().text(0, "jet 1 when ((((((((1=;");
        fine(broken, 0, "jet 1 when " + "(".repeat(8) + "1=1" + ")".repeat(8) + ";", 1);
        fault(broken, 0, "jet 1 when 1=1);", 1, 14);
        Check.due("what was open in a text before is not open now", place().text(0, "jet 1 when 1=2 and (1=2 and not not 1=;").text(0, "jet 5 when 1=1;jet 3;"), x -> x.of(0, 8), 5);
        Check.due("eight nots turn nothing", place().text(0, "jet 5 when " + "not ".repeat(8) + "1=1;jet 3;"), x -> x.of(0, 8), 5);
        Check.due("seven turn it", place().text(0, "jet 5 when " + "not ".repeat(7) + "1=1;jet 3;"), x -> x.of(0, 8), 3);
    }

    private static void grammarOfTheLaw() {
        Check.sentence("Terms 2", "C = E (< | = | >) E | not C | ( B ). E = T {(+ | -) T}. T = U {* U | / NUMBER}.");
        fault(place(), 0, "jet (1);", 1, 4);
        fault(place(), 0, "jet -1;", 1, 4);
        fault(place(), 0, "jet not 1;", 1, 4);
        fault(place(), 0, "jet 1 when 1;", 1, 12);
        fault(place(), 0, "jet 1 when 1 and 1=1;", 1, 13);
        fault(place(), 0, "jet 1 when 1<2<3;", 1, 14);
        fault(place(), 0, "jet 1 when (1)=1;", 1, 13);
        fault(place(), 0, "jet 1 when (1=1)=1;", 1, 16);
        fault(place(), 0, "jet 1 when (1=1)+1=1;", 1, 16);
        fault(place(), 0, "jet 1 when ();", 1, 12);
        fault(place(), 0, "jet 1 when 1=1 when 1=1;", 1, 15);
        fault(place(), 0, "jet 1 when 1=1 not 1=1;", 1, 15);
        fault(place(), 0, "jet 1 when 1==1;", 1, 13);
        fault(place(), 0, "jet 1 when 1=not 1;", 1, 13);
        fault(place(), 0, "jet 1 when 1=(1);", 1, 13);
        fault(place(), 0, "jet 1 when 1=1);", 1, 14);
        fault(place(), 0, "when 1=1;", 1, 0);
        fault(place(), 0, "jet when 1=1;", 1, 4);
        fault(place(), 0, "rain 1;", 1, 0);
        fault(place(), 0, "jet 1; jet", 1, 10);
        fault(place(), 0, "jet hears;", 1, 4);
        Check.sentence("Terms 2", "0 THE LAW = {(hears | jet | slip) E [when B] ;}.");
        fine(place(), 0, "hears 1;jet 2;slip 3 when 1=1;", 3);
        fault(place(), 0, "hears 1 jet 2;", 1, 8);
        fault(place(), 0, "hears 1 when;", 1, 12);
        Check.sentence("Terms 2", "U = NUMBER | stone | side | lean | mouth | rain | heard | dry | word | day.");
        fine(place(), 0, "jet 1+stone+side+lean+mouth+rain+heard+dry+word+day;", 1);
        fault(place(), 0, "jet jet;", 1, 4);
        Check.sentence("Terms 2", "2 WEATHER = {day DAY rain N ;}");
        fault(place(), 2, "day 1 rain 1 day 2 rain 2;", 1, 13);
        fault(place(), 2, "day 1 1;", 1, 6);
        fault(place(), 2, "day rain 1;", 1, 4);
        Check.sentence("Terms 2", "3 A PLAN = {on DAY (seat SITTER at SPOUT | rise SITTER | jar JAR at SPOUT | mend SPOUT | lead SPOUT | open SPOUT | tell SITTER WORD) ;}");
        fine(place(), 3, "on 0 seat 0 at 1;on 0 rise 0;on 0 jar 0 at 1;on 0 mend 0;on 0 lead 0;on 0 open 0;on 0 tell 0 1;", 7);
        fault(place(), 3, "on 0 seat 0 1;", 1, 12);
        fault(place(), 3, "on 0 rise 0 at 1;", 1, 12);
        fault(place(), 3, "on 0 jar 0 1;", 1, 11);
        fault(place(), 3, "on 0 mend 0 1;", 1, 12);
        fault(place(), 3, "on 0 tell 0 at 1;", 1, 12);
        fault(place(), 3, "on 0 rise 0 rise 1;", 1, 12);
        fault(place(), 3, "seat 0 at 0;", 1, 0);
        Check.sentence("Terms 2", "1 what can't stand there");
        String[] whole = {"jet 1 + 2 * 3 / 4 when not ( 1 < 2 or 1 = 2 ) and 2 > 1 ;", "spout 0 into 1 ;", "day 1 rain 1 ;", "on 1 seat 0 at 1 ;"};
        for (int k = 0; k < 4; k++) {
            for (int i = whole[k].indexOf(' '); i < whole[k].length() - 2; i = whole[k].indexOf(' ', i + 1)) {
                String early = whole[k].substring(0, i) + ";";
                if (k > 0 || !early.matches("jet 1( . \\d)*;|.*1 = 2 \\);")) {
                    fault(place(), k, early, 1, i);
                }
            }
        }
        for (String early : new String[] {"on 1 rise;", "on 1 jar 0;", "on 1 jar 0 at;", "on 1 mend;", "on 1 lead;", "on 1 open;", "on 1 tell;", "on 1 tell 0;"}) {
            fault(place(), 3, early, 1, early.length() - 1);
        }
    }

    private static void faultsAreOfTheLatest() {
        Check.sentence("Promise 11", "Of the latest text() what 0 the FAULT (0 without one), 1 its place (NONE). NONE for another what.");
        Run r = place().text(0, "jet 1/0;");
        Check.due("fault 0", r, x -> x.fault(0), 2);
        Check.due("fault 1", r, x -> x.fault(1), 6);
        Check.due("fault 2", r, x -> x.fault(2), NONE);
        Check.due("fault -1", r, x -> x.fault(-1), NONE);
        Check.due("of the next one", r.text(1, "?"), x -> x.fault(1), 0);
        Check.due("of a fine one", r.text(2, ""), x -> x.fault(0), 0);
        Check.due("of a fine one", r.text(2, ""), x -> x.fault(1), NONE);
        Check.due("other calls leave it", r.days(1).undo().image(true).image(false).tape("jet").then(x -> x.state(0)), x -> x.fault(1), 6);
    }

    private static void guttersLast() {
        Check.sentence("Terms 2", "of several lines of one the last.)");
        Check.due("the last", place().text(1, "spout 0 into 1;spout 0 into 2;spout 1 into 0;spout 0 into 9;"), x -> x.of(0, 6), 9);
        Check.due("the last again", place().text(1, "spout 0 into 1;spout 0 into 2;spout 0 into 1;"), x -> x.of(0, 6), 1);
        Check.due("all of them are lines", place().text(1, "spout 0 into 1;spout 0 into 1;"), x -> x.look(9), 2);
    }

    private static void weatherFirst() {
        Check.sentence("Terms 2", "of several of one DAY the first.)");
        Run r = place().text(2, "day 3 rain 4;day 2 rain 1;day 3 rain 9;day 3 rain 0;");
        Check.due("the first", r, x -> x.weather(3), 4);
        Check.due("all of them are lines", r, x -> x.look(10), 4);
        Check.due("so it rains", r.days(4), x -> x.look(2), 4);
        Check.due("one that says 0 is one", place().text(2, "day 3 rain 0;day 3 rain 9;"), x -> x.weather(3), 0);
    }

    private static void lawDefaults() {
        Check.sentence("Terms 2", "(none: hears 2, jet: rain, slip: 20 times rain)");
        for (int rain = 0; rain <= 9; rain++) {
            Run r = place().set(0, 0, rain);
            Check.due("hears", r, x -> x.of(0, 7), 2);
            Check.due("jet", r, x -> x.of(0, 8), rain);
            Check.due("slip", r, x -> x.of(0, 40), 20 * rain);
            Run no = r.text(0, "hears 9 when 1=2;jet 9 when 1=2;slip 9 when 1=2;");
            Check.due("hears, if no line is so", no, x -> x.of(0, 7), 2);
            Check.due("jet, if no line is so", no, x -> x.of(0, 8), rain);
            Check.due("slip, if no line is so", no, x -> x.of(0, 55), 20 * rain);
        }
        Check.due("a line of jet tells nothing of hears", place().text(0, "jet 7;"), x -> x.of(0, 7), 2);
    }

    private static int told(String law, int what) {
        return (int) place().text(0, law).ask(x -> x.of(0, what));
    }

    private static void lawIsHeld() {
        Check.sentence("Terms 2", "hears, jet held to 0 .. 9, slip to 0 .. 1000");
        int[][] held = {{0, 0}, {1, 1}, {9, 9}, {10, 9}, {9999, 9}};
        for (int[] h : held) {
            Check.due("hears " + h[0], told("hears " + h[0] + ";", 7), h[1]);
            Check.due("jet " + h[0], told("jet " + h[0] + ";", 8), h[1]);
        }
        int[][] slip = {{0, 0}, {1, 1}, {999, 999}, {1000, 1000}, {1001, 1000}, {9999, 1000}};
        for (int[] s : slip) {
            Check.due("slip " + s[0], told("slip " + s[0] + ";", 40), s[1]);
        }
        Check.due("hears below 0", told("hears 0-1;", 7), 0);
        Check.due("jet below 0", told("jet 0-1;", 8), 0);
        Check.due("slip below 0", told("slip 0-1;", 40), 0);
        Check.due("only what it tells is held, not its parts", told("jet 9999-9992;", 8), 7);
    }

    private static void lawWraps() {
        Check.sentence("Terms 2", "Ints, which wrap; / goes towards 0.");
        Check.due("2147483647", told("jet 4096*4096*128-1;", 8), 9);
        Check.due("2147483648 is the least int", told("jet 4096*4096*128;", 8), 0);
        Check.due("the least int less 1", told("slip 4096*4096*128-1;", 40), 1000);
        Check.due("0 less the least int is itself", told("slip 0-4096*4096*128;", 40), 0);
        Check.due("2 to 32 is 0", told("slip 4096*4096*256+7;", 40), 7);
        Check.due("a sum that wraps", told("jet 5 when 4096*4096*64+4096*4096*64<0;jet 1;", 8), 5);
        Check.due("comparisons do not wrap", told("jet 5 when 4096*4096*128<4096*4096*128-1;jet 1;", 8), 5);
        Check.due("the other way round", told("jet 5 when 4096*4096*128-1>4096*4096*128;jet 1;", 8), 5);
        Check.due("the least int by 1", told("jet 5 when 4096*4096*128/1=4096*4096*128;jet 1;", 8), 5);
        Check.due("the least int by 3, towards 0", told("jet 4096*4096*128/3*3-4096*4096*128;", 8), 2);
        Check.due("7 by 2 before it is taken away", told("jet 9-7*1/2;", 8), 6);
        Check.due("a product below 0 by a number", told("hears 1;jet 5 when 4096*4096*255/4096/4096=0-1;jet 1;", 8), 5);
        Check.due("1 by 9999", told("jet 1/9999+3;", 8), 3);
        Check.due("9999 by 9999", told("jet 9999/9999+3;", 8), 4);
    }

    private static void lawFacts() {
        Check.sentence("Terms 2", "heard: how many WORDS it has HEARD; dry: DRY; word: the WORD that is said (hears, jet: 0); day: DAY.");
        Run r = new Run(x -> x.spout(5, 3, 99), x -> x.spout(0, 0, 0), x -> x.sitter(0xffff)).act(0, 0, 0).text(0, "hears 9;").days(2).set(2, 0, 999).set(0, 0, 9);
        String[][] facts = {{"stone", "5", "0"}, {"side", "3", "0"}, {"lean", "99", "0"}, {"mouth", "0", "0"}, {"rain", "9", "9"}, {"heard", "16", "0"},
            {"dry", "999", "2"}, {"day", "2", "2"}, {"word", "15", "15"}};
        for (String[] f : facts) {
            Run told = r.text(0, "slip " + f[0] + ";");
            Check.due(f[0] + " of 0", told, x -> x.of(0, 55), Integer.parseInt(f[1]));
            Check.due(f[0] + " of 1", told, x -> x.of(1, 55), Integer.parseInt(f[2]));
        }
        for (int mouth = 1; mouth <= 2; mouth++) {
            Check.due("mouth", r.act(2 + mouth, 0, 0).text(0, "slip mouth;"), x -> x.of(0, 40), mouth);
        }
        Check.due("word in hears", r.text(0, "hears word+4;"), x -> x.of(0, 7), 4);
        Check.due("word in jet", r.text(0, "jet word+4;"), x -> x.of(0, 8), 4);
        Check.due("word in a when of jet", r.text(0, "jet 6 when word=0;"), x -> x.of(0, 8), 6);
        for (int w = 0; w < 16; w++) {
            int word = w;
            Check.due("word in slip", r.text(0, "slip word;"), x -> x.of(0, 40 + word), w);
        }
        Check.due("day at its end", Run.of(1).text(0, "slip day-9000;").manyDays(9999), x -> x.of(0, 40), 999);
    }

    private static void lawFirstLine() {
        Check.sentence("Terms 2", "E of the first line with that word whose B is so, or that has none");
        Check.due("the first of two", told("jet 3;jet 4;", 8), 3);
        Check.due("the first that is so", told("jet 3 when 1=2;jet 4 when 1=1;jet 5;", 8), 4);
        Check.due("the first without when", told("jet 3 when 1=2;slip 9;jet 5;jet 4 when 1=1;", 8), 5);
        Check.due("<", told("jet 1 when 1<1;jet 2 when 2<1;jet 3 when 1<2;", 8), 3);
        Check.due("=", told("jet 1 when 1=2;jet 2 when 2=1;jet 3 when 1=1;", 8), 3);
        Check.due(">", told("jet 1 when 1>1;jet 2 when 1>2;jet 3 when 2>1;", 8), 3);
        Check.due("a or b and c", told("jet 1 when (1=1 or 1=1) and 1=2;jet 3 when 1=1 or 1=1 and 1=2;", 8), 3);
        truthTables();
        longSums();
        Check.due("not a and b", told("jet 1 when not (1=1 and 1=2) and 1=2;jet 2 when not 1=2 and 1=2;jet 3;", 8), 3);
    }

    private static boolean joined(String how, boolean a, boolean b) {
        return how.equals("and") ? a && b : a || b;
    }

    /** B = A {or A}, A = C {and C}: all joinings of three, with nots and with parentheses. */
    private static void truthTables() {
        Check.sentence("Terms 2", "B = A {or A}. A = C {and C}.");
        String[] so = {"1=2", "1=1"};
        for (String one : new String[] {"and", "or"}) {
            for (String two : new String[] {"and", "or"}) {
                for (int bits = 0; bits < 8; bits++) {
                    boolean a = (bits & 1) == 1;
                    boolean b = (bits & 2) == 2;
                    boolean c = (bits & 4) == 4;
                    String[] abc = {so[bits & 1], so[bits >> 1 & 1], so[bits >> 2 & 1]};
                    boolean left = one.equals("and") || two.equals("or");
                    is(abc[0] + " " + one + " " + abc[1] + " " + two + " " + abc[2], left ? joined(two, joined(one, a, b), c) : joined(one, a, joined(two, b, c)));
                    is("(" + abc[0] + " " + one + " " + abc[1] + ") " + two + " " + abc[2], joined(two, joined(one, a, b), c));
                    is(abc[0] + " " + one + " (" + abc[1] + " " + two + " " + abc[2] + ")", joined(one, a, joined(two, b, c)));
                    is("not (" + abc[0] + " " + one + " " + abc[1] + ") " + two + " " + abc[2], joined(two, !joined(one, a, b), c));
                    is(abc[0] + " " + one + " not (" + abc[1] + " " + two + " not " + abc[2] + ")", joined(one, a, !joined(two, b, !c)));
                    is("not (not " + abc[0] + " " + one + " not not (" + abc[1] + ")) " + two + " (" + abc[2] + ")", joined(two, !joined(one, !a, b), c));
                }
            }
        }
    }

    private static void is(String condition, boolean so) {
        Check.due(condition, told("jet 5 when " + condition + ";jet 3;", 8), so ? 5 : 3);
    }

    /** As long as a tape can hold them, and told again and again. */
    private static void longSums() {
        Check.sentence("Terms 2", "E = T {(+ | -) T}. T = U {* U | / NUMBER}.");
        Check.due("a sum of 197", told("slip 1" + "+1".repeat(196) + ";", 40), 197);
        Check.due("a difference", told("slip 999" + "-1".repeat(195) + ";", 40), 804);
        Check.due("sums and differences", told("slip 5" + "+3-2".repeat(90) + ";", 40), 95);
        Check.due("a product", told("slip 7" + "*1".repeat(196) + ";", 40), 7);
        Check.due("parts", told("slip 7" + "/1".repeat(196) + ";", 40), 7);
        Check.due("9-3-2", told("slip 9-3-2;", 40), 4);
        Check.due("9-3*2+1", told("slip 9-3*2+1;", 40), 4);
        Check.due("20/3*2-1*4/3", told("slip 20/3*2-1*4/3;", 40), 11);
        Check.due("many alternatives", told("jet 5 when 1=2" + " or 1=2".repeat(53) + " or 1=1;", 8), 5);
        Check.due("many conditions", told("jet 5 when 1=1" + " and 1=1".repeat(46) + ";jet 3;", 8), 5);
        Run again = place();
        for (int i = 0; i < 20; i++) {
            again = again.text(0, "slip " + i + "+1".repeat(196) + ";");
        }
        Check.due("a shorter law behind a longer one", place().text(0, "slip 8/2;").text(0, "slip 8;"), x -> x.of(0, 40), 8);
        Check.due("told twenty times", again, x -> x.of(0, 40), 215);
        Run faulted = place();
        for (int i = 0; i < 20; i++) {
            faulted = faulted.text(0, "slip 1" + "+1".repeat(196) + "?");
        }
        Check.due("faulted twenty times", faulted.text(0, "slip 8;"), x -> x.of(0, 40), 8);
    }
}
