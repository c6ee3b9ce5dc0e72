import java.util.ArrayList;
import java.util.Arrays;
import java.util.List;

/**
 * A run of calls that is made anew, on a new object, whenever something is asked of it. So what is asked
 * leaves no trace in what is asked next, and no object sees more than the 512 calls the document speaks of.
 */
final class Run {
    static final int MOST_CALLS = 512;
    private static final Call[] SIGHTS = sightCalls();
    private static final int[] FAR = {Integer.MIN_VALUE, Integer.MAX_VALUE};

    /** One call; a boolean counts 1 or 0. */
    interface Call {
        long on(SpoutNews x);
    }

    private final Call[] calls;
    private long[] seen;

    Run(Call... calls) {
        this.calls = calls;
    }

    /** A cathedral with so many spouts and a sitter for each set of words. */
    static Run of(int spouts, int... knows) {
        List<Call> calls = new ArrayList<>();
        for (int i = 0; i < spouts; i++) {
            int n = i;
            calls.add(x -> x.spout(n % 6, n % 4, n * 10));
        }
        for (int k : knows) {
            calls.add(x -> x.sitter(k));
        }
        return new Run(calls.toArray(new Call[0]));
    }

    static long bit(boolean b) {
        return b ? 1 : 0;
    }

    /** What lies just and far beyond both ends of what can be. */
    static int[] beyond(int low, int high) {
        return new int[] {FAR[0], low - 1, high + 1, FAR[1]};
    }

    int length() {
        return calls.length;
    }

    Run then(Call... more) {
        Call[] all = Arrays.copyOf(calls, calls.length + more.length);
        System.arraycopy(more, 0, all, calls.length, more.length);
        return new Run(all);
    }

    Run times(int n, Call c) {
        Call[] more = new Call[n];
        Arrays.fill(more, c);
        return then(more);
    }

    Run set(int what, int who, int v) {
        return then(x -> bit(x.set(what, who, v)));
    }

    Run act(int what, int who, int v) {
        return then(x -> bit(x.act(what, who, v)));
    }

    Run days(int n) {
        return then(x -> x.days(n));
    }

    /** From day 0 on, so many days in steps of sixty. */
    Run manyDays(int n) {
        Run r = times(n / 60, x -> x.days(60));
        return n % 60 == 0 ? r : r.days(n % 60);
    }

    Run undo() {
        return then(x -> bit(x.undo()));
    }

    Run image(boolean taken) {
        return then(x -> bit(x.image(taken)));
    }

    /** The text on the tape, which is empty before. */
    Run tape(String s) {
        List<Call> more = new ArrayList<>();
        for (int i = 0; i < s.length(); i += 20) {
            int[] v = Feeder.five((s.substring(i) + " ".repeat(20)).substring(0, 20));
            more.add(x -> x.feed(v[0], v[1], v[2], v[3], v[4]));
        }
        more.add(x -> bit(x.end(s.length())));
        return then(more.toArray(new Call[0]));
    }

    Run text(int k, String s) {
        return tape(s).then(x -> x.text(k));
    }

    private SpoutNews made(int callsToCome) {
        if (calls.length + callsToCome > MOST_CALLS) {
            throw new IllegalStateException("a run of more than 512 calls");
        }
        SpoutNews x = new SpoutNews();
        for (Call c : calls) {
            c.on(x);
        }
        return x;
    }

    long ask(Call c) {
        return c.on(made(1));
    }

    /** What the last call of the run answered. */
    long last() {
        return new Run(Arrays.copyOf(calls, calls.length - 1)).ask(calls[calls.length - 1]);
    }

    private long[] sights() {
        long[] all = new long[SIGHTS.length];
        int room = MOST_CALLS - calls.length;
        for (int from = 0; from < SIGHTS.length; from += room) {
            SpoutNews x = made(0);
            for (int i = from; i < SIGHTS.length && i < from + room; i++) {
                all[i] = SIGHTS[i].on(x);
            }
        }
        return all;
    }

    int tapeLength() {
        long more = ask(x -> x.feed(0, 0, 0, 0, 0));
        SpoutNews x = made(20);
        int length = more == SpoutNews.NONE ? 400 : (int) more - 20;
        for (int i = 0; i < 20 && !x.end(length); i++) {
            length--;
        }
        return length;
    }

    /** How many there would be, were one more told. */
    private long[] oneMoreOfEach() {
        return new long[] {tapeLength(), ask(x -> x.seat(0, 0)), ask(x -> x.quarrel(0, 1)), ask(x -> x.drought(0)), ask(x -> x.chapter(1)),
            ask(x -> x.spout(0, 0, 0)), ask(x -> x.sitter(0))};
    }

    /** All that can be seen now, on the tape, behind each undo(), and in the image. */
    long[] allSeen() {
        if (seen == null) {
            List<long[]> parts = new ArrayList<>();
            parts.add(sights());
            parts.add(oneMoreOfEach());
            Run back = this;
            for (int i = 0; i < 7 && back.ask(x -> bit(x.undo())) == 1; i++) {
                back = back.undo();
                parts.add(back.sights());
            }
            if (ask(x -> bit(x.image(false))) == 1) {
                parts.add(image(false).sights());
            }
            seen = parts.stream().flatMapToLong(Arrays::stream).toArray();
        }
        return seen;
    }

    private static Call[] sightCalls() {
        List<Call> all = new ArrayList<>();
        addSightsOfAll(all);
        addSightsOfSpouts(all);
        addSightsOfThought(all);
        return all.toArray(new Call[0]);
    }

    private interface Asked {
        long at(SpoutNews x, int a, int b);
    }

    private static void add(List<Call> all, int lowA, int highA, int lowB, int highB, Asked asked) {
        for (int a = lowA; a <= highA; a++) {
            for (int b = lowB; b <= highB; b++) {
                int one = a;
                int other = b;
                all.add(x -> asked.at(x, one, other));
            }
        }
    }

    private static void addSightsOfAll(List<Call> all) {
        add(all, 0, 12, 0, 0, (x, a, b) -> x.look(a));
        add(all, 0, 1, 0, 0, (x, a, b) -> x.fault(a));
        add(all, 0, 7, 0, 1, SpoutNews::who);
        add(all, 0, 5, 0, 1, SpoutNews::jar);
        add(all, 0, 12, 0, 0, (x, a, b) -> x.weather(a));
        add(all, 0, 149, 0, 3, SpoutNews::book);
    }

    private static void addSightsOfSpouts(List<Call> all) {
        add(all, 0, 9, 0, 8, SpoutNews::of);
        add(all, 0, 9, 20, 36, SpoutNews::of);
        add(all, 0, 9, 40, 55, SpoutNews::of);
        add(all, 0, 9, 0, 1, SpoutNews::ends);
    }

    private static void addSightsOfThought(List<Call> all) {
        add(all, 1, 3, 0, 2, SpoutNews::goes);
        add(all, 9, 9, 0, 15, SpoutNews::goes);
        add(all, 0, 15, 0, 9, SpoutNews::told);
        add(all, 0, 1, 0, 0, (x, a, b) -> x.catches(a));
        add(all, 0, 2, 0, 0, (x, a, b) -> x.ways(a));
        add(all, 0, 1, 0, 0, (x, a, b) -> x.parts(a));
        add(all, 0, 15, 0, 1, (x, a, b) -> x.known(1 << a, b));
        add(all, -1, 15, 0, 0, (x, a, b) -> x.again(a));
        add(all, -1, 3, 0, 0, (x, a, b) -> x.keeps(a));
        add(all, 0, 1, 0, 0, (x, a, b) -> x.longest(a));
        add(all, 1, 6, 0, 1, SpoutNews::read);
        add(all, 0, 1, 0, 0, (x, a, b) -> x.game(a));
        add(all, 99, 99, 0, 0, (x, a, b) -> x.leans(a));
    }
}
