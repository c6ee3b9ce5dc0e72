/** For each promise of the document: ordinary inputs, the edges that it names, and wrong inputs. */
public final class PromiseTest {
    private static int wrong = 0;
    private static int held = 0;
    private static String promise = "";

    public static void main(String[] args) {
        newObject();
        tellings();
        sets();
        acts();
        daysInTheDry();
        daysInTheRain();
        guttersLeadOn();
        dayBounds();
        tapeAndTexts();
        lawFaults();
        otherFaults();
        lawTells();
        sights();
        bookIsFull();
        goesInThought();
        toldAndEnds();
        catches();
        seats();
        quarrels();
        known();
        latin();
        masons();
        surmises();
        droughts();
        leans();
        reign();
        game();
        undo();
        image();
        look();
        System.out.println("PromiseTest: " + held + " passed, " + wrong + " failed");
        if (wrong != 0) {
            System.exit(1);
        }
    }

    private static void due(String call, long got, long want) {
        if (got == want) {
            held++;
        } else {
            wrong++;
            System.out.println(promise + ": " + call + " answered " + got + ", due is " + want);
        }
    }

    private static void due(String call, boolean got, boolean want) {
        due(call, got ? 1 : 0, want ? 1 : 0);
    }

    /** A cathedral with so many spouts and sitters, the i-th sitter knowing the words told. */
    private static SpoutNews with(int spouts, int... knows) {
        SpoutNews x = new SpoutNews();
        for (int i = 0; i < spouts; i++) {
            x.spout(i % 6, i % 4, i * 10);
        }
        for (int k : knows) {
            x.sitter(k);
        }
        return x;
    }

    private static int tell(SpoutNews x, int k, String text) {
        Feeder.feed(x, text);
        return x.text(k);
    }

    private static void fault(SpoutNews x, int k, String text, int kind, int place) {
        due("text " + k + " '" + text + "'", tell(x, k, text), -1);
        due("fault 0 of '" + text + "'", x.fault(0), kind);
        due("fault 1 of '" + text + "'", x.fault(1), place);
    }

    private static void newObject() {
        promise = "promise 1";
        SpoutNews x = new SpoutNews();
        for (int i = 0; i <= 12; i++) {
            due("look " + i, x.look(i), 0);
        }
        for (int j = 0; j < 6; j++) {
            due("jar AT", x.jar(j, 0), -1);
            due("jar CAUGHT", x.jar(j, 1), 0);
        }
        due("of", x.of(0, 0), -2);
        due("fault 0", x.fault(0), 0);
        due("fault 1", x.fault(1), -1);
        due("undo", x.undo(), false);
        due("image", x.image(false), false);
    }

    private static void tellings() {
        promise = "promise 2";
        SpoutNews x = new SpoutNews();
        due("state", x.state(Integer.MIN_VALUE), 0);
        due("state", x.state(-7), Integer.MIN_VALUE);
        due("look 7", x.look(7), -7);
        promise = "promise 3";
        due("stone -1", x.spout(-1, 0, 0), -1);
        due("side -1", x.spout(0, -1, 0), -1);
        due("lean -1", x.spout(0, 0, -1), -1);
        due("stone 6", x.spout(6, 3, 99), -1);
        due("side 4", x.spout(5, 4, 99), -1);
        due("lean 100", x.spout(5, 3, 100), -1);
        for (int i = 0; i < 10; i++) {
            due("spout", x.spout(5, 3, 99), i);
        }
        due("an eleventh", x.spout(0, 0, 0), -1);
        due("look 0", x.look(0), 10);
        promise = "promise 4";
        due("below 0", x.sitter(-1), -1);
        due("another bit", x.sitter(65536), -1);
        for (int i = 0; i < 8; i++) {
            due("sitter", x.sitter(65535 - i), i);
            due("KNOWS", x.who(i, 0), 65535 - i);
            due("AT", x.who(i, 1), -1);
        }
        due("a ninth", x.sitter(0), -1);
    }

    private static void sets() {
        promise = "promise 5";
        SpoutNews x = with(2, 5);
        due("rain 9, who not asked", x.set(0, -99, 9), true);
        due("look 2", x.look(2), 9);
        due("rain 10", x.set(0, 0, 10), false);
        due("rain -1", x.set(0, 0, -1), false);
        due("lean 99", x.set(1, 1, 99), true);
        due("of lean", x.of(1, 2), 99);
        due("lean 100", x.set(1, 1, 100), false);
        due("lean of none", x.set(1, 2, 0), false);
        due("dry 999", x.set(2, 1, 999), true);
        due("of dry", x.of(1, 5), 999);
        due("dry 1000", x.set(2, 1, 1000), false);
        due("dry -1", x.set(2, 1, -1), false);
        due("dry of none", x.set(2, -1, 0), false);
        due("knows", x.set(3, 0, 65535), true);
        due("who", x.who(0, 0), 65535);
        due("knows -1", x.set(3, 0, -1), false);
        due("knows another", x.set(3, 0, 65536), false);
        due("knows of none", x.set(3, 1, 0), false);
        due("what 4", x.set(4, 0, 0), false);
        due("what -1", x.set(-1, 0, 0), false);
    }

    private static void acts() {
        promise = "promise 6";
        SpoutNews x = with(2, 5);
        due("seat", x.act(0, 0, 1), true);
        due("AT", x.who(0, 1), 1);
        due("seat at none", x.act(0, 0, 2), false);
        due("seat at -1", x.act(0, 0, -1), false);
        due("seat none", x.act(0, 1, 0), false);
        due("rise", x.act(1, 0, -5), true);
        due("AT", x.who(0, 1), -1);
        due("rise again", x.act(1, 0, 0), true);
        due("rise none", x.act(1, 1, 0), false);
        due("jar", x.act(2, 5, 1), true);
        due("jar AT", x.jar(5, 0), 1);
        due("jar 6", x.act(2, 6, 1), false);
        due("jar at none", x.act(2, 5, 2), false);
        due("mend", x.act(3, 1, 99), true);
        due("MOUTH", x.of(1, 3), 1);
        due("lead", x.act(4, 1, 99), true);
        due("MOUTH", x.of(1, 3), 2);
        due("open", x.act(5, 1, 99), true);
        due("MOUTH", x.of(1, 3), 0);
        due("mend none", x.act(3, 2, 0), false);
        due("lead none", x.act(4, -1, 0), false);
        due("open none", x.act(5, 2, 0), false);
        due("tell", x.act(6, 0, 15), true);
        due("KNOWS", x.who(0, 0), 32773);
        due("tell 16", x.act(6, 0, 16), false);
        due("tell -1", x.act(6, 0, -1), false);
        due("tell none", x.act(6, 1, 0), false);
        due("empty", x.act(7, 5, 77), true);
        due("empty 6", x.act(7, 6, 0), false);
        due("empty -1", x.act(7, -1, 0), false);
        due("what 8", x.act(8, 0, 0), false);
        due("what -1", x.act(-1, 0, 0), false);
    }

    private static void daysInTheDry() {
        promise = "promise 7, dry";
        SpoutNews x = with(3, 0b1011, 0b10110, 0xffff);
        tell(x, 0, "hears 3 when heard < 2; hears 1;");
        x.act(0, 0, 0);
        x.act(0, 1, 0);
        x.act(0, 2, 1);
        x.act(4, 1, 0);
        due("days", x.days(1), 0);
        // The first sitter is asked at 0 heard (3 of him), the second at 3 (1 of him).
        due("heard", x.of(0, 4), 4);
        due("word 0", x.of(0, 20), 0);
        due("word 1", x.of(0, 21), 1);
        due("word 2", x.of(0, 22), 3);
        due("word 3", x.of(0, 23), 2);
        due("a leaded one hears nothing", x.of(1, 4), 0);
        due("but is drier", x.of(1, 5), 1);
        due("book 3 which", x.book(3, 2), 0);
        due("book 3 word", x.book(3, 3), 2);
        x.act(3, 1, 0);
        x.days(1);
        due("a mended one hears", x.of(1, 4), 3);
        x.set(2, 0, 998);
        x.days(3);
        due("DRY has an end", x.of(0, 5), 999);
        tell(x, 0, "hears 0;");
        x.set(3, 2, 0xffff);
        x.days(1);
        int heard = x.of(1, 4);
        tell(x, 0, "hears 9;");
        x.days(5);
        due("each word once", x.of(1, 4), 16);
        due("some before", heard < 16, true);
    }

    private static void daysInTheRain() {
        promise = "promise 7, rain";
        SpoutNews x = with(3, 0b1011000000000011);
        tell(x, 0, "hears 9; jet 3; slip 1000 when word = 15; slip 1000 when heard = 4; slip 0;");
        for (int s = 0; s < 3; s++) {
            x.act(0, 0, s);
            x.days(1);
        }
        x.act(2, 0, 0);
        x.act(2, 1, 0);
        x.act(2, 2, 1);
        x.act(3, 1, 0);
        x.act(4, 2, 0);
        x.set(0, 0, 4);
        due("only the open one speaks", x.days(1), 3);
        // 0, 1, 12 at 5, 4, 3 heard: the second slips to 2.
        due("caught", x.jar(0, 1), 1 | 1 << 2 | 1 << 12);
        due("in each jar", x.jar(1, 1), 1 | 1 << 2 | 1 << 12);
        due("wrong", x.look(4), 1);
        due("left", x.of(0, 4), 2);
        due("the first left", x.of(0, 20), 13);
        due("DRY of all is 0", x.of(2, 5), 0);
        due("a leaded one keeps", x.of(2, 4), 5);
        due("a mended one keeps below 5", x.of(1, 4), 5);
        due("a draw each", x.look(7), draws(0, 3));
        x.set(0, 0, 5);
        due("at 5 it speaks", x.days(1), 5);
        due("15 slips to 0", x.jar(0, 1) & 1, 1);
        due("13 is said", x.jar(0, 1) >> 13 & 1, 1);
        due("no 15", x.jar(0, 1) >> 15 & 1, 0);
        due("said", x.look(3), 8);
        due("dry words are said in row", x.book(15, 1), 1);
        due("book which", x.book(18, 2), 0);
        due("book word as said", x.book(16, 3), 2);
        SpoutNews y = with(1, 0xffff);
        tell(y, 0, "hears 9; slip 500;");
        y.act(0, 0, 0);
        y.days(2);
        y.state(12345);
        y.set(0, 0, 9);
        y.days(1);
        int state = 12345;
        int slipped = 0;
        for (int i = 0; i < 9; i++) {
            state = draws(state, 1);
            slipped += (state >>> 8) % 1000 < 500 ? 1 : 0;
        }
        due("draws as told", y.look(4), slipped);
    }

    private static int draws(int state, int n) {
        int s = state;
        for (int i = 0; i < n; i++) {
            s = 1664525 * s + 1013904223;
        }
        return s;
    }

    private static void guttersLeadOn() {
        promise = "promise 7, gutters";
        SpoutNews x = with(4, 0b111, 0b110, 0b1000);
        tell(x, 1, "spout 0 into 1;spout 1 into 2;spout 2 into 0;spout 3 into 1;spout 3 into 2;");
        due("of several lines the last", x.of(3, 6), 2);
        tell(x, 0, "hears 9; slip 0;");
        x.act(0, 0, 0);
        x.act(0, 1, 1);
        x.act(0, 2, 3);
        x.days(1);
        x.set(0, 0, 2);
        due("said", x.days(1), 5);
        // 0 says 0 1, 1 says 1 2, 3 says 3; 0 keeps 2; 1 gets 0 1; 2 gets 1 2 3.
        due("0 keeps", x.of(0, 20), 2);
        due("1 gets", x.of(1, 20), 0);
        due("1 gets", x.of(1, 21), 1);
        due("2 gets", x.of(2, 4), 3);
        due("2 gets last", x.of(2, 22), 3);
        due("first led on", x.book(11, 1), 2);
        due("into", x.book(11, 2), 1);
        due("into", x.book(13, 2), 2);
        x.act(4, 1, 0);
        due("said", x.days(1), 3);
        due("a leaded one takes nothing", x.of(1, 4), 2);
        due("what comes waits for the end", x.of(0, 4), 2);
        due("behind what was heard", x.of(0, 20), 1);
        SpoutNews y = with(2, 0b11, 0b10);
        tell(y, 1, "spout 0 into 1;");
        tell(y, 0, "hears 9; jet 9 when stone = 0; jet 0; slip 0;");
        y.act(0, 0, 0);
        y.act(0, 1, 1);
        y.days(1);
        y.set(0, 0, 1);
        y.days(1);
        due("what is heard comes not again", y.of(1, 4), 2);
        due("the new one is behind", y.of(1, 21), 0);
    }

    private static void dayBounds() {
        promise = "promise 7, bounds";
        SpoutNews x = new SpoutNews();
        due("0", x.days(0), -1);
        due("-1", x.days(-1), -1);
        due("61", x.days(61), -1);
        for (int i = 0; i < 166; i++) {
            x.days(60);
        }
        due("40 beyond", x.days(40), -1);
        due("nothing is done", x.look(5), 9960);
        due("39 more", x.days(39), 0);
        due("DAY", x.look(5), 9999);
        due("no more", x.days(1), -1);
    }

    private static void tapeAndTexts() {
        promise = "promise 8";
        SpoutNews x = with(2, 1);
        for (int i = 1; i <= 20; i++) {
            due("feed", x.feed(0x20202020, 0x20202020, 0x0a0a0a0a, 0x20202020, 0x20202020), 20 * i);
        }
        due("beyond 400", x.feed(0, 0, 0, 0, 0), -1);
        promise = "promise 9";
        due("end -1", x.end(-1), false);
        due("end 401", x.end(401), false);
        due("end 381", x.end(381), true);
        due("beyond 400", x.feed(0, 0, 0, 0, 0), -1);
        due("end 382", x.end(382), false);
        due("end 380", x.end(380), true);
        due("feed", x.feed(0x20202020, 0x20202020, 0x20202020, 0x20202020, 0x20202020), 400);
        promise = "promise 10";
        due("blanks alone", x.text(0), 0);
        due("the tape is empty then", x.end(1), false);
        due("a law", tell(x, 0, "jet 7;\nslip\n5 ;"), 2);
        due("its jet", x.of(0, 8), 7);
        due("a fault", tell(x, 0, "jet 8; slip"), -1);
        due("it stays as it was", x.of(0, 8), 7);
        due("lines stay", x.look(8), 2);
        due("the tape is empty then", x.end(1), false);
        due("no such one", tell(x, 4, "jet 8;"), -1);
        due("none", x.fault(0), 0);
        due("none", x.fault(1), -1);
        due("no such one", x.text(-1), -1);
        due("gutters", tell(x, 1, "spout 0 into 1;spout 1 into 0;"), 2);
        due("gutters faulted", tell(x, 1, "spout 0 into 1;spout 1 into 1;"), -1);
        due("stay", x.of(1, 6), 0);
        due("an empty text", x.text(1), 0);
        due("no gutters then", x.of(1, 6), -1);
        due("weather", tell(x, 2, "day 999 rain 9;day 0 rain 0;day 0 rain 5;"), 3);
        due("weather 999", x.weather(999), 9);
        due("of several the first", x.weather(0), 0);
        due("a plan", tell(x, 3, "on 0 seat 0 at 1;on 999 rise 0;on 0 jar 5 at 0;on 0 mend 0;on 0 lead 1;on 1 open 1;on 1 tell 0 15;"), 7);
        x.days(1);
        due("seated", x.who(0, 1), 1);
        due("jar", x.jar(5, 0), 0);
        due("mended", x.of(0, 3), 1);
        due("leaded", x.of(1, 3), 2);
        x.days(1);
        due("opened", x.of(1, 3), 0);
        due("told", x.who(0, 0), 32769);
        due("and heard on that day", x.of(1, 4), 2);
        due("lines of a plan", x.look(11), 7);
        StringBuilder sixteen = new StringBuilder();
        for (int i = 0; i < 16; i++) {
            sixteen.append("day ").append(i).append(" rain 1;");
        }
        due("16 lines", tell(x, 2, sixteen.toString()), 16);
        fault(x, 2, sixteen + "day 1 rain 1;", 3, sixteen.length());
        fault(x, 2, sixteen + " rain 1 day", 1, sixteen.length() + 1);
    }

    private static void lawFaults() {
        promise = "promise 11, the law";
        SpoutNews x = with(2, 1);
        fault(x, 0, "hears", 1, 5);
        fault(x, 0, "hears   ", 1, 8);
        fault(x, 0, ";", 1, 0);
        fault(x, 0, "hears 2", 1, 7);
        fault(x, 0, "hears 2;;", 1, 8);
        fault(x, 0, "Hears 2;", 1, 0);
        fault(x, 0, "hearsX 2;", 1, 0);
        for (String letter : new String[] {"a", "z", "A", "Z"}) {
            fault(x, 0, "hears" + letter + " 2;", 1, 0);
            fault(x, 0, "hears 2 " + letter + "when 1=1;", 1, 8);
        }
        for (String sign : new String[] {"@", "[", "`", "{", ":", ",", ".", "\u00e9", "\u0000"}) {
            fault(x, 0, "hears" + sign + " 2;", 1, 5);
            fault(x, 0, "hears 2" + sign + "9;", 1, 7);
        }
        fault(x, 0, "hears 12345;", 1, 6);
        fault(x, 0, "hears 2/0;", 2, 8);
        fault(x, 0, "hears 2/00+;", 2, 8);
        fault(x, 0, "hears 2/lean;", 1, 8);
        fault(x, 0, "hears 2/12345;", 1, 8);
        fault(x, 0, "hears -2;", 1, 6);
        fault(x, 0, "hears (2);", 1, 6);
        fault(x, 0, "hears 2 2;", 1, 8);
        fault(x, 0, "hears 2 when 2;", 1, 14);
        fault(x, 0, "hears 2 when (2=2;", 1, 17);
        fault(x, 0, "hears 2 when 2=2);", 1, 16);
        fault(x, 0, "hears 2 when ((2=2) and );", 1, 24);
        fault(x, 0, "hears 2 when 2=2=2;", 1, 16);
        fault(x, 0, "hears 2 when not;", 1, 16);
        fault(x, 0, "hears 2 when;", 1, 12);
        fault(x, 0, "hears 2 when 1=1 or or;", 1, 20);
        fault(x, 0, "hears 2 when (1=1) 2;", 1, 19);
        fault(x, 0, "hears spout;", 1, 6);
        fault(x, 0, "hears 2\t;", 1, 7);
        fault(x, 0, "hears 2?;", 1, 7);
        fault(x, 0, "jet 1 when " + "(".repeat(9) + "1=1" + ")".repeat(9) + ";", 3, 19);
        due("8 open", tell(x, 0, "jet 1 when " + "(".repeat(8) + "1=1" + ")".repeat(8) + ";"), 1);
        due("8 nots open", tell(x, 0, "jet 1 when " + "not ".repeat(8) + "1=2 and " + "not ".repeat(8) + "1=1;"), 1);
        due("8 again after they are closed", tell(x, 0, "jet 1 when ((((((((1=1))))))))or((((((((1=1))))))));"), 1);
        fault(x, 0, "jet 1 when not(not(not(not(not 1=1))));", 3, 27);
        fault(x, 0, "jet 1 when 1 (;", 1, 13);
        StringBuilder many = new StringBuilder("jet 1;".repeat(16));
        due("16 lines", tell(x, 0, many.toString()), 16);
        fault(x, 0, many + "slip", 3, 96);
        fault(x, 0, many + "when", 1, 96);
        due("faults are of the latest text", tell(x, 0, ""), 0);
        due("none", x.fault(0), 0);
        due("none", x.fault(1), -1);
        due("another what", x.fault(2), -1);
        due("another what", x.fault(-1), -1);
    }

    private static void otherFaults() {
        promise = "promise 11, the others";
        SpoutNews x = with(3, 1, 2);
        fault(x, 1, "spout 3 into 0;", 2, 6);
        fault(x, 1, "spout 2 into 3;", 2, 13);
        fault(x, 1, "spout 2 into 02;", 2, 13);
        fault(x, 1, "spout 2 into;", 1, 12);
        fault(x, 1, "spout into 2;", 1, 6);
        fault(x, 1, "spout 2 into 1", 1, 14);
        fault(x, 1, "spout 2 rain 1;", 1, 8);
        fault(x, 1, "hears 2;", 1, 0);
        due("without blanks", tell(x, 1, "spout2into1;"), 1);
        fault(x, 1, "spout 0 into 1;".repeat(16) + " spout 0", 3, 241);
        fault(x, 2, "day 1000 rain 1;", 2, 4);
        fault(x, 2, "day 999 rain 10;", 2, 13);
        fault(x, 2, "day 1 rain;", 1, 10);
        fault(x, 2, "day 1 rain 1 rain;", 1, 13);
        fault(x, 2, "rain 1 day 1;", 1, 0);
        fault(x, 3, "on 1000 rise 0;", 2, 3);
        fault(x, 3, "on 0 rise 2;", 2, 10);
        fault(x, 3, "on 0 seat 2 at 0;", 2, 10);
        fault(x, 3, "on 0 seat 1 at 3;", 2, 15);
        fault(x, 3, "on 0 seat 1 0;", 1, 12);
        fault(x, 3, "on 0 jar 6 at 0;", 2, 9);
        fault(x, 3, "on 0 jar 5 at 3;", 2, 14);
        fault(x, 3, "on 0 mend 3;", 2, 10);
        fault(x, 3, "on 0 lead 3;", 2, 10);
        fault(x, 3, "on 0 open 3;", 2, 10);
        fault(x, 3, "on 0 tell 2 0;", 2, 10);
        fault(x, 3, "on 0 tell 1 16;", 2, 12);
        fault(x, 3, "on 0 tell 1 at 1;", 1, 12);
        fault(x, 3, "on 0 empty 1;", 1, 5);
        fault(x, 3, "on 0 on 1;", 1, 5);
        fault(x, 3, "on rise 1;", 1, 3);
        fault(x, 3, "on 0 rise 1", 1, 11);
        due("16 lines", tell(x, 3, "on 0 rise 1;".repeat(16)), 16);
        fault(x, 3, "on 0 rise 1;".repeat(16) + "on", 3, 192);
        SpoutNews bare = new SpoutNews();
        fault(bare, 1, "spout 0 into 1;", 2, 6);
        fault(bare, 3, "on 0 rise 0;", 2, 10);
    }

    private static int jetOf(String law) {
        SpoutNews x = new SpoutNews();
        x.spout(4, 3, 77);
        x.set(0, 0, 6);
        x.set(2, 0, 120);
        due("'" + law + "' is a law", tell(x, 0, law) > 0, true);
        return x.of(0, 8);
    }

    private static void lawTells() {
        promise = "promise 12, what the law tells";
        due("stone", jetOf("jet stone;"), 4);
        due("side", jetOf("jet side;"), 3);
        due("lean", jetOf("jet lean/10;"), 7);
        due("mouth", jetOf("jet 5+mouth;"), 5);
        due("rain", jetOf("jet rain;"), 6);
        due("heard", jetOf("jet 1+heard;"), 1);
        due("dry", jetOf("jet dry/60;"), 2);
        due("word", jetOf("jet word+3;"), 3);
        due("day", jetOf("jet day+2;"), 2);
        due("held above", jetOf("jet 10;"), 9);
        due("held below", jetOf("jet 1-2;"), 0);
        due("left to right", jetOf("jet 9-3-2;"), 4);
        due("times first", jetOf("jet 1+2*3-2;"), 5);
        due("row of times", jetOf("jet 7*3/4*1;"), 5);
        due("minus waits for times", jetOf("jet 9-2*3+1;"), 4);
        due("a part of a part", jetOf("jet 99/10/4;"), 2);
        due("a part of a product below 0 goes towards 0", jetOf("jet 5 when 0-7*1/2 = 0-3; jet 1;"), 5);
        due("wraps", jetOf("jet 8 when 9999*9999*9999 < 0; jet 3;"), 8);
        due("and binds more than or", jetOf("jet 8 when 1=1 or 1=1 and 1=2; jet 3;"), 8);
        due("and binds more than or", jetOf("jet 8 when 1=2 and 1=1 or 1=1; jet 3;"), 8);
        due("parens", jetOf("jet 8 when (1=1 or 1=1) and 1=2; jet 3;"), 3);
        due("not binds most", jetOf("jet 8 when not 1=2 and 1=2; jet 3;"), 3);
        due("not of parens", jetOf("jet 8 when not (1=2 and 1=2); jet 3;"), 8);
        due("not not", jetOf("jet 8 when not not 1=1; jet 3;"), 8);
        due("less", jetOf("jet 8 when 1<1; jet 7 when 1<2;"), 7);
        due("more", jetOf("jet 8 when 1>1; jet 7 when 2>1;"), 7);
        due("none is so", jetOf("jet 8 when 1>1;"), 6);
        due("the first", jetOf("slip 1;hears 3;jet 2;jet 5;"), 2);
        SpoutNews x = with(1, 1);
        due("hears without a line", x.of(0, 7), 2);
        x.set(0, 0, 9);
        due("jet without a line", x.of(0, 8), 9);
        due("slip without a line", x.of(0, 40), 180);
        tell(x, 0, "slip word*100; hears word+1; jet word;");
        due("slip of 0", x.of(0, 40), 0);
        due("slip of 10", x.of(0, 50), 1000);
        due("slip is held", x.of(0, 55), 1000);
        due("word is 0 in hears", x.of(0, 7), 1);
        due("word is 0 in jet", x.of(0, 8), 0);
        tell(x, 0, "slip 0-1; hears 10;");
        due("slip is held", x.of(0, 40), 0);
        due("hears is held", x.of(0, 7), 9);
    }

    private static void sights() {
        promise = "promise 12";
        SpoutNews x = with(2, 3);
        due("stone", x.of(1, 0), 1);
        due("side", x.of(1, 1), 1);
        due("lean", x.of(1, 2), 10);
        due("mouth", x.of(1, 3), 0);
        due("no gutter", x.of(1, 6), -1);
        due("none such", x.of(2, 0), -2);
        due("none such", x.of(-1, 0), -2);
        for (int what : new int[] {-1, 9, 19, 20, 39, 56, Integer.MAX_VALUE, Integer.MIN_VALUE}) {
            due("of " + what, x.of(0, what), -2);
        }
        promise = "promise 13";
        due("knows", x.who(0, 0), 3);
        due("at", x.who(0, 1), -1);
        due("what 2", x.who(0, 2), -2);
        due("what -1", x.who(0, -1), -2);
        due("none such", x.who(1, 0), -2);
        due("none such", x.who(-1, 0), -2);
        promise = "promise 14";
        x.act(2, 5, 1);
        due("at", x.jar(5, 0), 1);
        due("none such", x.jar(6, 0), -2);
        due("none such", x.jar(-1, 0), -2);
        due("what 2", x.jar(0, 2), -2);
        promise = "promise 15";
        tell(x, 2, "day 5 rain 0;day 7 rain 9;");
        due("5", x.weather(5), 0);
        due("7", x.weather(7), 9);
        due("6", x.weather(6), -1);
        due("-1", x.weather(-1), -1);
        due("10000", x.weather(10000), -1);
        x.days(6);
        x.set(0, 0, 3);
        x.days(1);
        due("no line: as it was", x.look(2), 3);
        x.days(1);
        due("a line: as it tells", x.look(2), 9);
        x.days(1);
        due("and stays", x.look(2), 9);
    }

    private static void bookIsFull() {
        promise = "promise 16";
        SpoutNews x = with(10, 0xffff, 0xffff, 0xffff, 0xffff, 0xffff, 0xffff, 0xffff, 0xffff);
        tell(x, 0, "hears 9;");
        for (int i = 0; i < 8; i++) {
            x.act(0, i, i);
        }
        x.days(1);
        due("lines", x.look(6), 72);
        due("day", x.book(71, 0), 0);
        due("what", x.book(71, 1), 0);
        due("which", x.book(71, 2), 7);
        due("word", x.book(71, 3), 8);
        due("none such", x.book(72, 0), -1);
        due("none such", x.book(-1, 0), -1);
        due("what 4", x.book(0, 4), -1);
        due("what -1", x.book(0, -1), -1);
        x.days(1);
        due("lines", x.look(6), 128);
        x.set(0, 0, 3);
        due("said", x.days(1), 24);
        due("150 at most", x.look(6), 150);
        due("no more then", x.days(1), 24);
        due("150 at most", x.look(6), 150);
        due("the last", x.book(149, 2), 7);
        due("the last", x.book(149, 0), 2);
        due("none such", x.book(150, 0), -1);
        x.undo();
        x.undo();
        due("undone", x.look(6), 128);
    }

    private static void goesInThought() {
        promise = "promise 17";
        SpoutNews x = with(2, 0b111);
        tell(x, 0, "slip 500 when word = 0; slip 499;");
        tell(x, 1, "spout 0 into 1;");
        tell(x, 2, "day 2 rain 2;day 3 rain 0;");
        tell(x, 3, "on 0 seat 0 at 0;on 0 jar 3 at 0;on 1 tell 0 9;");
        due("said", x.goes(3, 0), 2);
        due("wrong", x.goes(3, 1), 1);
        due("heard", x.goes(3, 2), 3);
        due("caught", x.goes(3, 13), 2);
        due("caught of another", x.goes(3, 10), 0);
        due("before the rain", x.goes(2, 0), 0);
        due("heard before", x.goes(2, 2), 4);
        due("no draws", x.look(7), 0);
        due("nothing stays", x.look(5), 0);
        due("nothing stays", x.of(0, 4), 0);
        due("nothing stays", x.who(0, 1), -1);
        due("nothing stays", x.look(6), 0);
        due("nothing to undo", x.look(12), 0);
        due("n 0", x.goes(0, 0), -1);
        due("n 61", x.goes(61, 0), -1);
        due("n 60", x.goes(60, 0), 2);
        due("what 3", x.goes(1, 3), -1);
        due("what 9", x.goes(1, 9), -1);
        due("what 16", x.goes(1, 16), -1);
        due("what -1", x.goes(1, -1), -1);
        x.days(3);
        due("said goes on from what was", x.goes(1, 0), 2);
    }

    private static void toldAndEnds() {
        promise = "promise 18";
        SpoutNews x = with(8, 0b1, 0b11, 0b10, 0b1);
        tell(x, 1, "spout 0 into 1;spout 1 into 2;spout 2 into 3;spout 3 into 1;spout 4 into 5;spout 6 into 0;");
        x.act(0, 0, 6);
        x.act(0, 1, 2);
        x.act(0, 2, 4);
        due("through all", x.told(0, 3), 0b11);
        due("not back", x.told(0, 0), 0b1);
        due("at it", x.told(0, 2), 0b11);
        due("word 1", x.told(1, 5), 0b100);
        due("word 1", x.told(1, 1), 0b10);
        due("who sits nowhere told nothing", x.told(0, 7), 0);
        due("word 16", x.told(16, 0), -1);
        due("word -1", x.told(-1, 0), -1);
        due("spout 8", x.told(0, 8), -1);
        due("spout -1", x.told(0, -1), -1);
        promise = "promise 19";
        due("without a gutter", x.ends(7, 0), 7);
        due("without a gutter", x.ends(7, 1), 0);
        due("at last", x.ends(4, 0), 5);
        due("at last", x.ends(4, 1), 1);
        due("a round", x.ends(6, 0), 1);
        due("a round", x.ends(6, 1), 2);
        due("on the round", x.ends(3, 0), 1);
        due("on the round", x.ends(3, 1), 0);
        due("what 2", x.ends(0, 2), -1);
        due("what -1", x.ends(0, -1), -1);
        due("none such", x.ends(8, 0), -1);
        tell(x, 1, "spout 0 into 3;spout 3 into 2;spout 2 into 3;");
        due("the least of the round", x.ends(0, 0), 2);
        due("the first that is met", x.ends(0, 1), 1);
    }

    private static void catches() {
        promise = "promise 20";
        SpoutNews x = with(6);
        due("each its own", x.catches(0), 6);
        due("each its own", x.catches(1), 63);
        tell(x, 1, "spout 0 into 3;spout 1 into 3;spout 4 into 5;spout 5 into 4;spout 2 into 5;");
        due("how many", x.catches(0), 2);
        due("the least set", x.catches(1), 1 << 3 | 1 << 4);
        due("what 2", x.catches(2), -1);
        due("what -1", x.catches(-1), -1);
    }

    private static void seats() {
        promise = "promise 21";
        SpoutNews x = with(4, 1, 2, 3);
        due("no sitter", x.seat(3, 0), -1);
        due("no spout", x.seat(0, 4), -1);
        due("no spout", x.seat(0, -1), -1);
        due("-2", x.seat(-2, 0), -1);
        for (int i = 0; i < 12; i++) {
            due("seat", x.seat(i / 4, i % 4), i + 1);
        }
        due("a thirteenth", x.seat(0, 0), -1);
        promise = "promise 22";
        due("ways", x.ways(0), 24);
        due("sure", x.ways(1), 0);
        due("ask", x.ways(2), 0);
        due("what 3", x.ways(3), -1);
        due("what -1", x.ways(-1), -1);
        due("nothing is then", x.seat(-1, 99), 0);
        due("one way to sit nowhere", x.ways(0), 1);
        due("sure", x.ways(1), 0);
        due("ask", x.ways(2), -1);
        x.seat(1, 0);
        x.seat(2, 0);
        x.seat(2, 1);
        x.seat(2, 1);
        due("told twice is one way", x.ways(0), 1);
        due("sure", x.ways(1), 2);
        x.seat(0, 2);
        x.seat(0, 3);
        due("ways", x.ways(0), 2);
        due("sure", x.ways(1), 2);
        due("ask", x.ways(2), 0);
        x.seat(-1, 0);
        x.seat(1, 0);
        x.seat(2, 0);
        due("no way", x.ways(0), 0);
        due("ask", x.ways(2), 1);
    }

    private static void quarrels() {
        promise = "promise 23";
        SpoutNews x = new SpoutNews();
        due("alike", x.quarrel(9, 9), -1);
        due("10", x.quarrel(10, 0), -1);
        due("10", x.quarrel(0, 10), -1);
        due("-1", x.quarrel(0, -1), -1);
        due("-2", x.quarrel(-2, 0), -1);
        for (int i = 0; i < 14; i++) {
            due("quarrel", x.quarrel(0, 1 + i % 9), i + 1);
        }
        due("a fifteenth", x.quarrel(0, 1), -1);
        promise = "promise 24";
        due("the greater side", x.parts(0), 9);
        due("groups", x.parts(1), 1);
        due("what 2", x.parts(2), -1);
        due("none are then", x.quarrel(-1, 0), 0);
        due("parts", x.parts(0), 0);
        due("groups", x.parts(1), 0);
        x.quarrel(9, 8);
        x.quarrel(7, 6);
        x.quarrel(8, 7);
        x.quarrel(0, 1);
        due("parts", x.parts(0), 3);
        due("groups", x.parts(1), 2);
        x.quarrel(6, 5);
        x.quarrel(5, 9);
        due("an odd round", x.parts(0), -1);
        due("groups", x.parts(1), 2);
    }

    private static void known() {
        promise = "promise 25";
        SpoutNews x = with(4, 0b0111, 0b1100, 0b0011, 0b1000);
        tell(x, 0, "hears 9;");
        for (int i = 0; i < 4; i++) {
            x.act(0, i, i);
        }
        x.days(1);
        due("how many", x.known(0b1111, 0), 2);
        due("of several the least", x.known(0b1111, 1), 0b0011);
        due("one", x.known(0b1000, 1), 0b0010);
        due("none needed", x.known(0, 0), 0);
        due("none needed", x.known(0, 1), 0);
        due("by none", x.known(0b10000, 0), -1);
        due("by none", x.known(0b10000, 1), -1);
        due("other bits", x.known(65536, 0), -1);
        due("other bits", x.known(-1, 0), -1);
        due("what 2", x.known(0, 2), -1);
        due("what -1", x.known(0, -1), -1);
    }

    private static void latin() {
        promise = "promise 26";
        SpoutNews x = new SpoutNews();
        due("16", x.latin(16, 0), false);
        due("-1", x.latin(-1, 0), false);
        due("to 16", x.latin(0, 16), false);
        due("to -1", x.latin(0, -1), false);
        due("15", x.latin(15, 15), true);
        promise = "promise 27";
        due("itself", x.again(-1), 1);
        // Rounds of 3, 4, 5 and 4.
        int[] to = {1, 2, 0, 4, 5, 6, 3, 8, 9, 10, 11, 7, 13, 14, 15, 12};
        for (int i = 0; i < 16; i++) {
            x.latin(i, to[i]);
        }
        due("all", x.again(-1), 60);
        due("of one", x.again(8), 5);
        x.latin(15, 0);
        due("two have the same", x.again(-1), -1);
        due("comes to one that was there", x.again(12), 7);
        due("16", x.again(16), -1);
        due("-2", x.again(-2), -1);
    }

    private static void masons() {
        promise = "promise 28";
        SpoutNews x = new SpoutNews();
        for (int row : new int[] {122, 124, 10123, -123, 1123, 3211, 0, 4012, Integer.MIN_VALUE, Integer.MAX_VALUE}) {
            due("row " + row, x.mason(0, false, row), false);
        }
        due("mason 4", x.mason(4, false, 123), false);
        due("mason -1", x.mason(-1, true, 123), false);
        promise = "promise 29";
        due("offers", x.keeps(-1), 10);
        due("none such", x.keeps(4), -1);
        due("none such", x.keeps(-2), -1);
        x.mason(0, false, 123);
        x.mason(1, false, 1023);
        x.mason(2, false, 123);
        x.mason(3, false, 3210);
        due("row", x.mason(0, true, 2103), true);
        due("row", x.mason(1, true, 123), true);
        // 0 and 2 both want 0, which has 2 dearer; 1 wanted 1, which has 0 dearer; 1 then goes to 0 and on to 2.
        due("0", x.keeps(0), 1);
        due("1", x.keeps(1), 2);
        due("2", x.keeps(2), 0);
        due("3", x.keeps(3), 3);
        due("offers", x.keeps(-1), 7);
    }

    private static void surmises() {
        promise = "promise 30";
        SpoutNews x = new SpoutNews();
        due("as it was", x.surmise(1000, 20, 20), 1000000);
        due("never", x.surmise(0, 20, 20), 0);
        due("one says so", x.surmise(500, 1, 0), 600000);
        due("one says not so", x.surmise(500, 0, 1), 400000);
        due("two and one, downwards each time", x.surmise(500, 2, 1), 599999);
        due("all say so", x.surmise(500, 20, 0) > 999000, true);
        int[][] none = {{-1, 0, 0}, {1001, 0, 0}, {0, -1, 0}, {0, 21, 0}, {0, 0, -1}, {0, 0, 21}};
        for (int[] v : none) {
            due("can't be", x.surmise(v[0], v[1], v[2]), -1);
        }
    }

    private static void droughts() {
        promise = "promise 31";
        SpoutNews x = new SpoutNews();
        due("10", x.drought(10), -1);
        due("-2", x.drought(-2), -1);
        int[] days = {3, 0, 0, 1, 0, 0, 9, 0};
        for (int i = 0; i < 40; i++) {
            due("drought", x.drought(days[i % 8]), i + 1);
        }
        due("a forty-first", x.drought(0), -1);
        promise = "promise 32";
        due("how long", x.longest(0), 2);
        due("of several the first", x.longest(1), 1);
        due("what 2", x.longest(2), -1);
        due("what -1", x.longest(-1), -1);
        due("none is then", x.drought(-1), 0);
        due("no day", x.longest(0), 0);
        due("no day", x.longest(1), -1);
        x.drought(5);
        due("no dry day", x.longest(0), 0);
        due("no dry day", x.longest(1), -1);
        x.drought(0);
        due("the last day", x.longest(1), 1);
    }

    private static void leans() {
        promise = "promise 33";
        SpoutNews x = new SpoutNews();
        due("no spouts", x.leans(99), 0);
        x.spout(0, 0, 98);
        due("one century", x.leans(99), 1);
        due("none needed", x.leans(98), 0);
        x.spout(0, 0, 0);
        due("ten", x.leans(10), 10);
        due("then by twos", x.leans(20), 15);
        due("then by threes", x.leans(23), 16);
        due("0", x.leans(0), -1);
        due("100", x.leans(100), -1);
        due("LEAN stays", x.of(1, 2), 0);
    }

    private static void reign() {
        promise = "promise 34";
        SpoutNews x = new SpoutNews();
        due("0", x.chapter(0), -1);
        due("61", x.chapter(61), -1);
        due("-2", x.chapter(-2), -1);
        int[] minutes = {10, 10, 10, 30, 5, 5, 5, 5, 5, 5, 60, 1};
        for (int i = 0; i < 12; i++) {
            due("chapter", x.chapter(minutes[i]), i + 1);
        }
        due("a thirteenth", x.chapter(1), -1);
        promise = "promise 35";
        due("in one", x.read(1, 0), 151);
        due("no second", x.read(1, 1), -1);
        due("in two", x.read(2, 0), 76);
        due("the second begins", x.read(2, 1), 7);
        due("in three", x.read(3, 0), 61);
        due("the earlier", x.read(3, 1), 3);
        due("in six", x.read(6, 0), 60);
        due("the earlier", x.read(6, 1), 1);
        due("in seven", x.read(7, 0), -1);
        due("in none", x.read(0, 0), -1);
        due("what 2", x.read(1, 2), -1);
        due("what -1", x.read(1, -1), -1);
        due("none is then", x.chapter(-1), 0);
        due("more than chapters", x.read(1, 0), -1);
        x.chapter(7);
        due("one", x.read(1, 0), 7);
        due("more than chapters", x.read(2, 0), -1);
    }

    private static void game() {
        promise = "promise 36";
        SpoutNews x = with(3, 0b11111, 0b1, 0b11);
        tell(x, 0, "hears 9;");
        due("nothing to take", x.game(0), -1);
        due("nothing to take", x.game(1), -1);
        x.act(0, 1, 1);
        x.days(1);
        due("the spout", x.game(0), 1);
        due("how many", x.game(1), 1);
        x.act(0, 2, 2);
        x.days(1);
        due("of 1 and 2 the second", x.game(0), 2);
        due("takes one", x.game(1), 1);
        x.act(0, 0, 0);
        x.days(1);
        // 5, 1, 2: worth 2, 1, 2.
        due("5 1 2", x.game(0), 1);
        due("takes", x.game(1), 1);
        due("what 2", x.game(2), -1);
        due("what -1", x.game(-1), -1);
        SpoutNews y = with(1, 0b1111);
        tell(y, 0, "hears 9;");
        y.act(0, 0, 0);
        y.days(1);
        due("of 4 one or all: the fewest", y.game(1), 1);
        SpoutNews z = with(1, 0b111);
        tell(z, 0, "hears 9;");
        z.act(0, 0, 0);
        z.days(1);
        due("of 3 who begins loses", z.game(0), -1);
    }

    private static void undo() {
        promise = "promise 37";
        SpoutNews x = with(2, 0b111);
        x.act(0, 0, 0);
        x.act(2, 0, 0);
        x.act(3, 0, 0);
        x.act(4, 0, 0);
        x.act(5, 0, 0);
        x.act(6, 0, 9);
        due("six", x.look(12), 6);
        x.act(1, 0, 0);
        due("six are kept", x.look(12), 6);
        due("undo rise", x.undo(), true);
        due("AT", x.who(0, 1), 0);
        due("undo tell", x.undo(), true);
        due("KNOWS", x.who(0, 0), 7);
        due("undo open", x.undo(), true);
        due("MOUTH", x.of(0, 3), 2);
        x.undo();
        due("MOUTH", x.of(0, 3), 1);
        x.undo();
        due("MOUTH", x.of(0, 3), 0);
        x.undo();
        due("JAR", x.jar(0, 0), -1);
        due("the seventh is gone", x.undo(), false);
        due("AT", x.who(0, 1), 0);
        x.days(2);
        tell(x, 2, "day 2 rain 3;");
        due("weather forgets", x.look(12), 0);
        x.act(2, 0, 0);
        x.days(1);
        due("said", x.look(3), 3);
        due("state", x.look(7) != 0, true);
        tell(x, 0, "jet 1;");
        tell(x, 1, "spout 0 into 1;");
        x.seat(0, 0);
        x.quarrel(0, 1);
        x.latin(0, 1);
        x.mason(0, true, 3210);
        x.drought(0);
        x.chapter(1);
        x.image(true);
        x.feed(0, 0, 0, 0, 0);
        x.end(0);
        due("none of these forgets", x.look(12), 2);
        int lines = x.look(6);
        due("undo a day", x.undo(), true);
        due("said", x.look(3), 0);
        due("state", x.look(7), 0);
        due("rain", x.look(2), 0);
        due("day", x.look(5), 2);
        due("book", x.look(6), lines - 3);
        due("caught", x.jar(0, 1), 0);
        due("heard", x.of(0, 4), 3);
        due("dry", x.of(0, 5), 2);
        due("the law stays", x.look(8), 1);
        due("gutters stay", x.of(0, 6), 1);
        due("thought stays", x.seat(0, 1), 2);
        forgets();
    }

    private static void forgets() {
        SpoutNews x = with(2, 0b111);
        x.days(60);
        due("six of sixty", x.look(12), 6);
        x.undo();
        due("one day each", x.look(5), 59);
        due("a spout that can't be", x.spout(9, 0, 0), -1);
        due("a sitter that can't be", x.sitter(-1), -1);
        due("a set that can't be", x.set(0, 0, 10), false);
        due("an act that can't be", x.act(0, 9, 9), false);
        due("days that can't be", x.days(0), -1);
        due("a faulty weather", tell(x, 2, "day"), -1);
        due("no image", x.image(false), false);
        due("nothing forgets that can't be", x.look(12), 5);
        x.set(0, 0, 0);
        due("set forgets", x.look(12), 0);
        x.days(1);
        x.state(0);
        due("state forgets", x.look(12), 0);
        x.days(1);
        x.spout(0, 0, 0);
        due("spout forgets", x.look(12), 0);
        x.days(1);
        x.sitter(0);
        due("sitter forgets", x.look(12), 0);
        x.days(1);
        x.text(3);
        due("a plan forgets", x.look(12), 0);
        x.days(1);
        x.text(0);
        x.text(1);
        due("law and gutters don't", x.look(12), 1);
        x.image(true);
        x.image(false);
        due("going back to the image forgets", x.look(12), 0);
    }

    private static void image() {
        promise = "promise 38";
        SpoutNews x = with(2, 0b111);
        tell(x, 0, "hears 9;slip 0;");
        tell(x, 1, "spout 0 into 1;");
        tell(x, 2, "day 9 rain 9;");
        tell(x, 3, "on 5 rise 0;");
        x.act(0, 0, 0);
        x.act(2, 4, 0);
        x.days(1);
        x.seat(0, 0);
        x.quarrel(0, 1);
        x.latin(0, 1);
        x.mason(0, false, 3210);
        x.drought(0);
        x.chapter(9);
        x.state(77);
        due("taken", x.image(true), true);
        x.set(0, 0, 9);
        x.days(1);
        x.spout(0, 0, 0);
        x.sitter(1);
        for (int k = 0; k < 4; k++) {
            x.text(k);
        }
        x.seat(-1, 0);
        x.quarrel(-1, 0);
        x.latin(0, 0);
        x.mason(0, false, 123);
        x.drought(-1);
        x.chapter(-1);
        x.state(5);
        tell(x, 0, "jet");
        x.feed(0, 0, 0, 0, 0);
        for (int time = 0; time < 2; time++) {
            due("gone back", x.image(false), true);
            due("fault stays", x.fault(1), 3);
            due("tape stays", x.end(20), true);
            int[] all = {2, 1, 0, 0, 0, 1, 3, 77, 2, 1, 1, 1, 0};
            for (int i = 0; i < all.length; i++) {
                due("look " + i, x.look(i), all[i]);
            }
            due("heard", x.of(0, 4), 3);
            due("caught", x.jar(4, 1), 0);
            due("book", x.book(2, 3), 2);
            due("gutter", x.of(0, 6), 1);
            due("seats", x.ways(1), 1);
            due("quarrels", x.parts(1), 1);
            due("latin", x.again(-1), -1);
            due("masons", x.keeps(0), 3);
            due("drought", x.longest(0), 1);
            due("reign", x.read(1, 0), 9);
            x.set(0, 0, 3);
            due("goes on", x.days(1), 3);
            due("caught", x.jar(4, 1), 7);
            x.undo();
            x.act(5, 0, 0);
            x.days(1);
        }
    }

    private static void look() {
        promise = "promise 39";
        SpoutNews x = with(3, 1, 2);
        x.set(0, 0, 4);
        x.state(99);
        tell(x, 0, "jet 1;");
        tell(x, 1, "spout 0 into 1;spout 0 into 2;");
        tell(x, 2, "day 5 rain 1;day 5 rain 2;day 5 rain 3;");
        tell(x, 3, "on 9 rise 0;on 9 rise 0;on 9 rise 0;on 9 rise 0;");
        x.days(2);
        int[] all = {3, 2, 4, 0, 0, 2, 0, 99, 1, 2, 3, 4, 2};
        for (int i = 0; i < all.length; i++) {
            due("look " + i, x.look(i), all[i]);
        }
        due("look 13", x.look(13), -1);
        due("look -1", x.look(-1), -1);
    }
}
