import java.util.ArrayList;
import java.util.List;
import java.util.Random;

/** Random runs of up to 512 calls on the program and on PlainNews; each answer must be the same. */
public final class FuzzTest {
    private static final int RUNS = 8000;
    private static final int MOST_CALLS = 512;
    // The longest text is fed five times over, twenty bytes a call, and asked for its fault.
    private static final int MOST_AT_ONCE = 110;
    private static int wrong = 0;
    private static long calls = 0;

    private Random random;
    private SpoutNews x;
    private PlainNews y;
    private List<String> log;

    public static void main(String[] args) {
        int runs = args.length > 0 ? Integer.parseInt(args[0]) : RUNS;
        for (int seed = 0; seed < runs && wrong < 5; seed++) {
            new FuzzTest().run(seed);
        }
        System.out.println(calls + " calls, " + wrong + " runs went apart");
        if (wrong != 0) {
            System.exit(1);
        }
    }

    private void run(int seed) {
        random = new Random(seed);
        x = new SpoutNews();
        y = new PlainNews();
        log = new ArrayList<>();
        boolean apart = false;
        int first = 3 * r(0, 6);
        while (log.size() < MOST_CALLS && !apart) {
            if (log.size() < first) {
                apart = !call(0, 2);
            } else if (log.size() + MOST_AT_ONCE > MOST_CALLS || r(0, 3) == 0) {
                apart = !sight();
            } else {
                apart = !call(0, 41);
            }
        }
        if (apart) {
            wrong++;
            System.out.println("seed " + seed + " went apart at the end of: " + log.subList(Math.max(0, log.size() - 12), log.size()));
        }
    }

    private int r(int low, int high) {
        return low + random.nextInt(high - low + 1);
    }

    /** Mostly within the bounds, now and then just beyond them or far away. */
    private int near(int low, int high) {
        int dice = random.nextInt(60);
        if (dice == 0) {
            return high + 1;
        }
        if (dice == 1) {
            return low - 1;
        }
        if (dice == 2) {
            int far = random.nextInt();
            return far % 4 == 0 ? Integer.MIN_VALUE : far % 4 == 1 ? Integer.MAX_VALUE : far;
        }
        return r(low, high);
    }

    private boolean same(String call, long got, long due) {
        calls++;
        log.add(call + " -> " + got + " due " + due);
        return got == due;
    }

    private boolean same(String call, boolean got, boolean due) {
        return same(call, got ? 1 : 0, due ? 1 : 0);
    }

    private boolean call(int from, int to) {
        int a, b, c;
        switch (r(from, to)) {
            case 0: a = near(0, 5); b = near(0, 3); c = near(0, 99); return same("spout " + a + " " + b + " " + c, x.spout(a, b, c), y.spout(a, b, c));
            case 1: a = near(0, 65535); return same("sitter " + a, x.sitter(a), y.sitter(a));
            case 2: a = near(0, 7); b = near(0, Math.max(0, y.look(1) - 1)); c = near(0, Math.max(0, y.look(0) - 1));
                return same("act " + a + " " + b + " " + c, x.act(a, b, c), y.act(a, b, c));
            case 3: a = random.nextInt(); if (r(0, 3) > 0) return true; return same("state " + a, x.state(a), y.state(a));
            case 4: a = near(0, 3); b = near(0, 9); c = a == 3 ? near(0, 65535) : a == 0 ? near(0, 9) : near(0, 99);
                return same("set " + a + " " + b + " " + c, x.set(a, b, c), y.set(a, b, c));
            case 5: case 6: case 7: a = r(0, 8) == 0 ? near(1, 60) : near(1, 5); return same("days " + a, x.days(a), y.days(a));
            case 8: case 9: case 10: return tellText();
            case 11: a = near(0, 9); b = near(0, 60); return same("of " + a + " " + b, x.of(a, b), y.of(a, b));
            case 12: a = near(0, 7); b = near(0, 1); return same("who " + a + " " + b, x.who(a, b), y.who(a, b));
            case 13: a = near(0, 5); b = near(0, 1); return same("jar " + a + " " + b, x.jar(a, b), y.jar(a, b));
            case 14: a = near(0, 30); return same("weather " + a, x.weather(a), y.weather(a));
            case 15: a = near(0, 149); b = near(0, 3); return same("book " + a + " " + b, x.book(a, b), y.book(a, b));
            case 16: a = near(1, 60); b = near(0, 15); return same("goes " + a + " " + b, x.goes(a, b), y.goes(a, b));
            case 17: a = near(0, 15); b = near(0, 9); return same("told " + a + " " + b, x.told(a, b), y.told(a, b));
            case 18: a = near(0, 9); b = near(0, 1); return same("ends " + a + " " + b, x.ends(a, b), y.ends(a, b));
            case 19: a = near(0, 1); return same("catches " + a, x.catches(a), y.catches(a));
            case 20: case 21: a = r(0, 20) == 0 ? -1 : near(0, Math.max(0, y.look(1) - 1)); b = near(0, Math.max(0, y.look(0) - 1));
                return same("seat " + a + " " + b, x.seat(a, b), y.seat(a, b));
            case 22: a = near(0, 2); return same("ways " + a, x.ways(a), y.ways(a));
            case 23: case 24: a = r(0, 20) == 0 ? -1 : near(0, 9); b = near(0, 9); return same("quarrel " + a + " " + b, x.quarrel(a, b), y.quarrel(a, b));
            case 25: a = near(0, 1); return same("parts " + a, x.parts(a), y.parts(a));
            case 26: a = near(0, 65535) & (r(0, 1) == 0 ? random.nextInt() & random.nextInt() : -1); b = near(0, 1);
                return same("known " + a + " " + b, x.known(a, b), y.known(a, b));
            case 27: return tellLatin();
            case 28: a = near(-1, 15); return same("again " + a, x.again(a), y.again(a));
            case 29: return tellMason();
            case 30: a = near(-1, 3); return same("keeps " + a, x.keeps(a), y.keeps(a));
            case 31: a = near(0, 1000); b = near(0, 20); c = near(0, 20); return same("surmise " + a + " " + b + " " + c, x.surmise(a, b, c), y.surmise(a, b, c));
            case 32: case 33: a = r(0, 30) == 0 ? -1 : r(0, 1) == 0 ? 0 : near(0, 9); return same("drought " + a, x.drought(a), y.drought(a));
            case 34: a = near(0, 1); return same("longest " + a, x.longest(a), y.longest(a));
            case 35: a = near(1, 99); return same("leans " + a, x.leans(a), y.leans(a));
            case 36: a = r(0, 20) == 0 ? -1 : near(1, 60); return same("chapter " + a, x.chapter(a), y.chapter(a));
            case 37: a = near(1, 6); b = near(0, 1); return same("read " + a + " " + b, x.read(a, b), y.read(a, b));
            case 38: a = near(0, 1); return same("game " + a, x.game(a), y.game(a));
            case 39: return same("undo", x.undo(), y.undo());
            case 40: boolean taken = r(0, 2) > 0; if (!taken && r(0, 1) == 0) return true; return same("image " + taken, x.image(taken), y.image(taken));
            default: a = near(0, 12); return same("look " + a, x.look(a), y.look(a));
        }
    }

    private boolean tellLatin() {
        if (r(0, 5) > 0) {
            int a = near(0, 15);
            int b = near(0, 15);
            return same("latin " + a + " " + b, x.latin(a, b), y.latin(a, b));
        }
        List<Integer> row = new ArrayList<>();
        for (int i = 0; i < 16; i++) {
            row.add(r(0, i), i);
        }
        boolean all = true;
        for (int i = 0; i < 16; i++) {
            all &= same("latin " + i + " " + row.get(i), x.latin(i, row.get(i)), y.latin(i, row.get(i)));
        }
        return all && same("again", x.again(-1), y.again(-1));
    }

    private boolean tellMason() {
        List<Integer> row = new ArrayList<>();
        for (int i = 0; i < 4; i++) {
            row.add(r(0, i), i);
        }
        int number = row.get(0) * 1000 + row.get(1) * 100 + row.get(2) * 10 + row.get(3);
        int told = r(0, 10) == 0 ? near(-3210, 40000) : number;
        int i = near(0, 3);
        boolean stone = random.nextBoolean();
        return same("mason " + i + " " + stone + " " + told, x.mason(i, stone, told), y.mason(i, stone, told));
    }

    private boolean tellText() {
        int k = r(0, 60) == 0 ? r(-2, 6) : r(0, 3);
        String s = new TextMaker(random, y.look(0), y.look(1), y.look(5)).make(k);
        if (r(0, 40) == 0) {
            s = s + s + s + s + s;
        }
        boolean all = true;
        String padded = s + " ".repeat((20 - s.length() % 20) % 20);
        for (int i = 0; i < padded.length(); i += 20) {
            int[] v = Feeder.five(padded.substring(i, i + 20));
            all &= same("feed", x.feed(v[0], v[1], v[2], v[3], v[4]), y.feed(v[0], v[1], v[2], v[3], v[4]));
        }
        int end = r(0, 30) == 0 ? near(0, 400) : s.length();
        all &= same("end " + end, x.end(end), y.end(end));
        all &= same("text " + k + " '" + s + "'", x.text(k), y.text(k));
        return all && same("fault 0", x.fault(0), y.fault(0)) && same("fault 1", x.fault(1), y.fault(1)) && same("fault 2", x.fault(2), y.fault(2));
    }

    /** Something that can be seen without changing anything. */
    private boolean sight() {
        int a;
        int b;
        switch (r(0, 14)) {
            case 0: a = r(0, 12); return same("look " + a, x.look(a), y.look(a));
            case 1: a = ofSpouts(); b = r(0, 8); return same("of " + a + " " + b, x.of(a, b), y.of(a, b));
            case 2: a = ofSpouts(); b = 20 + r(0, 16); return same("of " + a + " " + b, x.of(a, b), y.of(a, b));
            case 3: a = ofSpouts(); b = 40 + r(0, 15); return same("of " + a + " " + b, x.of(a, b), y.of(a, b));
            case 4: a = r(0, Math.max(0, y.look(1) - 1)); b = r(0, 1); return same("who " + a + " " + b, x.who(a, b), y.who(a, b));
            case 5: a = r(0, 5); b = r(0, 1); return same("jar " + a + " " + b, x.jar(a, b), y.jar(a, b));
            case 6: case 7: case 8: a = r(0, Math.min(149, y.look(6))); b = r(0, 3); return same("book " + a + " " + b, x.book(a, b), y.book(a, b));
            case 9: a = r(1, 8); b = r(0, 2) + (r(0, 1) == 0 ? 10 : 0); return same("goes " + a + " " + b, x.goes(a, b), y.goes(a, b));
            case 10: a = r(0, 15); b = ofSpouts(); return same("told " + a + " " + b, x.told(a, b), y.told(a, b));
            case 11: a = ofSpouts(); b = r(0, 1); return same("ends " + a + " " + b, x.ends(a, b), y.ends(a, b));
            case 12: a = r(0, 2); return same("ways " + a, x.ways(a), y.ways(a));
            case 13: a = r(1, 6); b = r(0, 1); return same("read " + a + " " + b, x.read(a, b), y.read(a, b));
            default: a = r(0, 1); return same("game " + a, x.game(a), y.game(a));
        }
    }

    private int ofSpouts() {
        return r(0, Math.max(0, y.look(0) - 1));
    }
}
