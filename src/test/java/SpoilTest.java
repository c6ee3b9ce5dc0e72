import java.util.LinkedHashSet;
import java.util.Set;

/**
 * Texts that are right, spoilt at every place: cut there, a byte taken out, put in, or another in its stead. The answer and
 * the fault must be those of PlainNews each time.
 */
public final class SpoilTest {
    private static final String[] BYTES = {" ", "\n", "\t", ";", "+", "-", "*", "/", "(", ")", "<", "=", ">", ".", "0", "1", "9", "a", "n", "Z", "\u0000",
        "\u00ff", "not ", "(1=1)", " and ", " or ", " when ", "jet ", " rain ", " at ", " into ", "00", "17", "99999"};
    private static final String[][] RIGHT = {
        {"", "hears 2;", "jet 12+3*rain/4-lean when not (1<2 or word=3) and 2>1;slip 9/1;", "slip 1 when " + "(".repeat(8) + "1=1" + ")".repeat(8) + ";",
            "slip 1 when " + "not ".repeat(8) + "1=1 or not(not(2>1));", "jet 1;".repeat(16), "hears stone+side+lean+mouth+rain+heard+dry+word+day;",
            "jet 1 when (((1=1 and not 2=2) or not (3<4)) and (not not 5>6));"},
        {"", "spout 0 into 1;spout 1 into 2;\nspout 2 into 0 ;", "spout0into1;".repeat(16)},
        {"", "day 0 rain 9;day 999 rain 0;", "day1rain1;".repeat(16)},
        {"", "on 0 seat 1 at 2;on 1 rise 0;on 2 jar 5 at 1;on 3 mend 0;on 4 lead 1;on 5 open 2;on 999 tell 1 15;", "on 9 rise 1;".repeat(16)}};
    private static long texts = 0;
    private static int wrong = 0;
    private static SpoutNews x;
    private static PlainNews y;
    private static int calls = Integer.MAX_VALUE;

    public static void main(String[] args) {
        for (int k = 0; k < 4; k++) {
            for (String right : RIGHT[k]) {
                for (String text : spoilt(right)) {
                    compare(k, text);
                }
            }
        }
        System.out.println("SpoilTest: " + texts + " texts, " + wrong + " failed");
        if (wrong != 0) {
            System.exit(1);
        }
    }

    private static Set<String> spoilt(String right) {
        Set<String> all = new LinkedHashSet<>();
        for (int i = 0; i <= right.length(); i++) {
            String before = right.substring(0, i);
            String behind = right.substring(i);
            all.add(before);
            all.add(before + "   ");
            all.add(behind);
            for (String s : BYTES) {
                all.add(before + s + behind);
                if (!behind.isEmpty()) {
                    all.add(before + s + behind.substring(1));
                    all.add(before + behind.substring(1));
                }
            }
        }
        all.removeIf(s -> s.length() > 400);
        return all;
    }

    /** New objects before they have seen 512 calls. */
    private static void renew() {
        if (calls < 450) {
            return;
        }
        x = new SpoutNews();
        y = new PlainNews();
        for (int i = 0; i < 3; i++) {
            x.spout(i, i, i);
            y.spout(i, i, i);
        }
        for (int i = 0; i < 2; i++) {
            x.sitter(i);
            y.sitter(i);
        }
        calls = 5;
    }

    private static void compare(int k, String text) {
        renew();
        texts++;
        Feeder.feed(x, text);
        y.tape.setLength(0);
        y.tape.append(text);
        long[] got = {x.text(k), x.fault(0), x.fault(1), x.look(8 + k), x.of(0, 7), x.of(1, 8), x.of(2, 43), x.of(0, 6), x.weather(1)};
        long[] due = {y.text(k), y.fault(0), y.fault(1), y.look(8 + k), y.of(0, 7), y.of(1, 8), y.of(2, 43), y.of(0, 6), y.weather(1)};
        calls += (text.length() + 19) / 20 + 1 + got.length;
        for (int i = 0; i < got.length; i++) {
            if (got[i] != due[i] && wrong++ < 20) {
                System.out.println("text " + k + " '" + text + "': answer " + i + " is " + got[i] + ", due is " + due[i]);
            }
        }
    }
}
