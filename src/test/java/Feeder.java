/** Texts as the numbers that feed() takes. */
final class Feeder {
    private Feeder() {
    }

    static int[] five(String twenty) {
        int[] v = new int[5];
        for (int i = 0; i < 20; i++) {
            v[i / 4] = v[i / 4] << 8 | twenty.charAt(i) & 255;
        }
        return v;
    }

    /** The text on the tape of a news that has an empty one. */
    static void feed(SpoutNews x, String s) {
        for (int i = 0; i < s.length(); i += 20) {
            int[] v = five((s.substring(i) + " ".repeat(20)).substring(0, 20));
            x.feed(v[0], v[1], v[2], v[3], v[4]);
        }
        x.end(s.length());
    }
}
