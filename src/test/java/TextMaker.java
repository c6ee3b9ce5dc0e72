import java.util.Random;

/** Random texts by the document's grammar, now and then with something spoilt in them. */
final class TextMaker {
    private static final String[] FACTS = {"stone", "side", "lean", "mouth", "rain", "heard", "dry", "word", "day"};
    private static final String[] ODD = {"", ";", "+", "-", "*", "/", "(", ")", "<", "=", ">", "not", "and", "or", "when", "jet", "hears",
        "slip", "spout", "into", "day", "rain", "on", "at", "seat", "rise", "jar", "mend", "lead", "open", "tell", "0", "12345", "00001", "0000",
        "17", "9999", "Jet", "jets", "?", "\t", "\u00e9", "stone", "2x", "x2", "\n", "not not not not not not not not not 1=1", "((((((((("};

    private final Random random;
    private final int spouts;
    private final int sitters;
    private final int today;

    TextMaker(Random random, int spouts, int sitters, int today) {
        this.random = random;
        this.spouts = spouts;
        this.sitters = sitters;
        this.today = today;
    }

    private int r(int low, int high) {
        return low + random.nextInt(high - low + 1);
    }

    String make(int k) {
        StringBuilder s = new StringBuilder();
        int lines = r(0, 12) == 0 ? r(15, 18) : r(0, 6);
        for (int i = 0; i < lines && s.length() < 370; i++) {
            s.append(line(k, lines > 10)).append(r(0, 3) == 0 ? " " : "");
        }
        String text = s.toString();
        if (r(0, 2) == 0) {
            text = spoil(text);
        }
        return text.length() > 400 ? text.substring(0, 400) : text;
    }

    private String spoil(String text) {
        int from = r(0, text.length());
        int to = Math.min(text.length(), from + r(0, 6));
        return text.substring(0, from) + (r(0, 1) == 0 ? " " : "") + ODD[r(0, ODD.length - 1)] + (r(0, 1) == 0 ? " " : "") + text.substring(to);
    }

    private int below(int n) {
        return r(0, 40) == 0 ? n : n < 1 ? 0 : r(0, n - 1);
    }

    private int dayNear() {
        return r(0, 30) == 0 ? 1000 : Math.min(999, today + r(0, 8));
    }

    private String line(int k, boolean shortOnes) {
        switch (k) {
            case 0:
                String kind = new String[] {"hears", "jet", "slip"}[r(0, 2)];
                String worth = kind.equals("slip") && r(0, 1) == 0 ? "" + 100 * r(0, 10) : shortOnes ? "" + r(0, 9) : sum();
                return kind + " " + worth + (r(0, 1) == 0 || shortOnes ? "" : " when " + condition(0)) + ";";
            case 1: return "spout " + below(spouts) + " into " + below(spouts) + ";";
            case 2: return "day " + dayNear() + " rain " + (r(0, 2) == 0 ? 0 : below(10)) + ";";
            default: return "on " + dayNear() + " " + deed() + ";";
        }
    }

    private String deed() {
        switch (r(0, 6)) {
            case 0: return "seat " + below(sitters) + " at " + below(spouts);
            case 1: return "rise " + below(sitters);
            case 2: return "jar " + below(6) + " at " + below(spouts);
            case 3: return "mend " + below(spouts);
            case 4: return "lead " + below(spouts);
            case 5: return "open " + below(spouts);
            default: return "tell " + below(sitters) + " " + below(16);
        }
    }

    private String condition(int depth) {
        int dice = r(0, depth > 6 ? 1 : 7);
        if (dice <= 2) {
            return sum() + new String[] {"<", "=", ">"}[r(0, 2)] + sum();
        }
        if (dice == 3) {
            return "not " + condition(depth + 3);
        }
        if (dice == 4) {
            return "(" + condition(depth + 1) + ")";
        }
        return condition(depth + 2) + (dice == 5 ? " and " : " or ") + condition(depth + 2);
    }

    private String sum() {
        StringBuilder s = new StringBuilder(product());
        while (r(0, 2) == 0) {
            s.append(r(0, 1) == 0 ? "+" : " - ").append(product());
        }
        return s.toString();
    }

    private String product() {
        StringBuilder s = new StringBuilder(unit());
        while (r(0, 3) == 0) {
            if (r(0, 2) == 0) {
                s.append("/").append(r(0, 30) == 0 ? 0 : r(1, 12));
            } else {
                s.append("*").append(unit());
            }
        }
        return s.toString();
    }

    private String unit() {
        return r(0, 1) == 0 ? FACTS[r(0, 8)] : "" + (r(0, 5) == 0 ? r(0, 9999) : r(0, 12));
    }
}
