import java.util.ArrayDeque;
import java.util.ArrayList;
import java.util.Arrays;
import java.util.HashMap;
import java.util.HashSet;
import java.util.List;
import java.util.Map;
import java.util.Set;
import java.util.TreeSet;
import java.util.function.ToIntFunction;
import java.util.regex.Matcher;
import java.util.regex.Pattern;

/**
 * The document once more, written apart from the program: with the Java library, whole copies instead of
 * rows that are used again, and trying all instead of thinking. FuzzTest holds the two side by side.
 */
final class PlainNews {
    static final class Spout {
        int stone, side, lean, mouth, dry;
        List<Integer> heard = new ArrayList<>();
        Spout copy() {
            Spout c = new Spout();
            c.stone = stone; c.side = side; c.lean = lean; c.mouth = mouth; c.dry = dry;
            c.heard = new ArrayList<>(heard);
            return c;
        }
    }
    static final class Sitter { Set<Integer> knows = new TreeSet<>(); Integer at; }
    static final class Jar { Integer at; Set<Integer> caught = new TreeSet<>(); }

    static final class World {
        List<Spout> spouts = new ArrayList<>();
        List<Sitter> sitters = new ArrayList<>();
        Jar[] jars = new Jar[6];
        int rain, said, wrong, day, state;
        List<int[]> book = new ArrayList<>();
        World() { for (int i = 0; i < 6; i++) jars[i] = new Jar(); }
        World copy() {
            World c = new World();
            for (Spout s : spouts) c.spouts.add(s.copy());
            for (Sitter s : sitters) { Sitter t = new Sitter(); t.knows.addAll(s.knows); t.at = s.at; c.sitters.add(t); }
            for (int i = 0; i < 6; i++) { c.jars[i].at = jars[i].at; c.jars[i].caught.addAll(jars[i].caught); }
            c.rain = rain; c.said = said; c.wrong = wrong; c.day = day; c.state = state;
            c.book = new ArrayList<>(book);
            return c;
        }
    }
    static final class Line { String kind; ToIntFunction<Map<String, Integer>> worth, when; }
    static final class Told {
        List<Line> law = new ArrayList<>();
        List<int[]> gutters = new ArrayList<>(), weather = new ArrayList<>();
        List<Object[]> plan = new ArrayList<>();
        List<int[]> seats = new ArrayList<>(), quarrels = new ArrayList<>();
        int[] latin = new int[16];
        String[] masons = {"0123", "0123", "0123", "0123"}, stones = {"0123", "0123", "0123", "0123"};
        List<Integer> drought = new ArrayList<>(), reign = new ArrayList<>();
        Told() { for (int i = 0; i < 16; i++) latin[i] = i; }
        Told copy() {
            Told c = new Told();
            c.law = new ArrayList<>(law); c.gutters = new ArrayList<>(gutters); c.weather = new ArrayList<>(weather);
            c.plan = new ArrayList<>(plan); c.seats = new ArrayList<>(seats); c.quarrels = new ArrayList<>(quarrels);
            c.latin = latin.clone(); c.masons = masons.clone(); c.stones = stones.clone();
            c.drought = new ArrayList<>(drought); c.reign = new ArrayList<>(reign);
            return c;
        }
    }

    World w = new World();
    Told t = new Told();
    World imageWorld;
    Told imageTold;
    ArrayDeque<World> past = new ArrayDeque<>();
    StringBuilder tape = new StringBuilder();
    int fault = 0, place = -1;

    static int bits(Iterable<Integer> set) { int b = 0; for (int i : set) b |= 1 << i; return b; }
    static Set<Integer> setOf(int bits) {
        Set<Integer> s = new TreeSet<>();
        for (int i = 0; i < 32; i++) if ((bits >>> i & 1) == 1) s.add(i);
        return s;
    }
    boolean spoutIs(int i) { return i >= 0 && i < w.spouts.size(); }
    boolean sitterIs(int i) { return i >= 0 && i < w.sitters.size(); }
    void keep() { past.addLast(w.copy()); if (past.size() > 6) past.removeFirst(); }

    int state(int v) { int was = w.state; w.state = v; past.clear(); return was; }
    int spout(int stone, int side, int lean) {
        if (stone < 0 || stone > 5 || side < 0 || side > 3 || lean < 0 || lean > 99 || w.spouts.size() == 10) return -1;
        Spout s = new Spout(); s.stone = stone; s.side = side; s.lean = lean;
        w.spouts.add(s); past.clear();
        return w.spouts.size() - 1;
    }
    int sitter(int knows) {
        if (knows < 0 || knows > 65535 || w.sitters.size() == 8) return -1;
        Sitter s = new Sitter(); s.knows = setOf(knows);
        w.sitters.add(s); past.clear();
        return w.sitters.size() - 1;
    }
    boolean set(int what, int who, int v) {
        if (what == 0 && v >= 0 && v <= 9) w.rain = v;
        else if (what == 1 && spoutIs(who) && v >= 0 && v <= 99) w.spouts.get(who).lean = v;
        else if (what == 2 && spoutIs(who) && v >= 0 && v <= 999) w.spouts.get(who).dry = v;
        else if (what == 3 && sitterIs(who) && v >= 0 && v <= 65535) w.sitters.get(who).knows = setOf(v);
        else return false;
        past.clear();
        return true;
    }
    static final List<String> DEEDS = List.of("seat", "rise", "jar", "mend", "lead", "open", "tell", "empty");
    boolean can(String deed, int who, int v) {
        switch (deed) {
            case "seat": return sitterIs(who) && spoutIs(v);
            case "rise": return sitterIs(who);
            case "jar": return who >= 0 && who < 6 && spoutIs(v);
            case "tell": return sitterIs(who) && v >= 0 && v < 16;
            case "empty": return who >= 0 && who < 6;
            default: return spoutIs(who);
        }
    }
    static void deed(World w, String deed, int who, int v) {
        switch (deed) {
            case "seat": w.sitters.get(who).at = v; break;
            case "rise": w.sitters.get(who).at = null; break;
            case "jar": w.jars[who].at = v; break;
            case "tell": w.sitters.get(who).knows.add(v); break;
            case "empty": w.jars[who].caught.clear(); break;
            default: w.spouts.get(who).mouth = deed.equals("mend") ? 1 : deed.equals("lead") ? 2 : 0;
        }
    }
    boolean act(int what, int who, int v) {
        if (what < 0 || what > 7 || !can(DEEDS.get(what), who, v)) return false;
        keep();
        deed(w, DEEDS.get(what), who, v);
        return true;
    }
    int days(int n) {
        if (n < 1 || n > 60 || w.day + n > 9999) return -1;
        int before = w.said;
        for (int i = 0; i < n; i++) { keep(); oneDay(w, false); }
        return w.said - before;
    }
    int feed(int a, int b, int c, int d, int e) {
        if (tape.length() + 20 > 400) return -1;
        for (int v : new int[] {a, b, c, d, e}) for (int i = 3; i >= 0; i--) tape.append((char) (v >> 8 * i & 255));
        return tape.length();
    }
    boolean end(int n) { if (n < 0 || n > tape.length()) return false; tape.setLength(n); return true; }

    int law(World x, String kind, int spout, int word) {
        Spout s = x.spouts.get(spout);
        Map<String, Integer> facts = new HashMap<>();
        facts.put("stone", s.stone); facts.put("side", s.side); facts.put("lean", s.lean); facts.put("mouth", s.mouth);
        facts.put("rain", x.rain); facts.put("heard", s.heard.size()); facts.put("dry", s.dry);
        facts.put("word", kind.equals("slip") ? word : 0); facts.put("day", x.day);
        int e = kind.equals("hears") ? 2 : kind.equals("jet") ? x.rain : 20 * x.rain;
        for (Line l : t.law) {
            if (l.kind.equals(kind) && (l.when == null || l.when.applyAsInt(facts) == 1)) { e = l.worth.applyAsInt(facts); break; }
        }
        return Math.max(0, Math.min(e, kind.equals("slip") ? 1000 : 9));
    }
    Integer gutter(int spout) {
        Integer into = null;
        for (int[] g : t.gutters) if (g[0] == spout) into = g[1];
        return into;
    }
    Integer rainOn(int day) { for (int[] x : t.weather) if (x[0] == day) return x[1]; return null; }
    static void write(World x, boolean thinks, int what, int which, int word) {
        if (!thinks && x.book.size() < 150) x.book.add(new int[] {x.day, what, which, word});
    }
    void oneDay(World x, boolean thinks) {
        for (Object[] p : t.plan) if ((Integer) p[0] == x.day) deed(x, (String) p[1], (Integer) p[2], (Integer) p[3]);
        if (rainOn(x.day) != null) x.rain = rainOn(x.day);
        if (x.rain == 0) {
            for (int i = 0; i < x.spouts.size(); i++) {
                Spout s = x.spouts.get(i);
                if (s.mouth != 2) for (Sitter who : x.sitters) {
                    if (who.at == null || who.at != i) continue;
                    int hears = law(x, "hears", i, 0), took = 0;
                    for (int word : who.knows) {
                        if (took < hears && !s.heard.contains(word) && s.heard.size() < 20) {
                            s.heard.add(word); took++; write(x, thinks, 0, i, word);
                        }
                    }
                }
                if (s.dry < 999) s.dry++;
            }
        } else {
            Map<Integer, List<Integer>> waits = new HashMap<>();
            for (int i = 0; i < x.spouts.size(); i++) {
                Spout s = x.spouts.get(i);
                waits.put(i, new ArrayList<>());
                if (s.mouth == 2 || s.mouth == 1 && x.rain < 5) continue;
                int jet = law(x, "jet", i, 0);
                for (int n = 0; n < jet && !s.heard.isEmpty(); n++) {
                    int word = s.heard.get(0), slip = law(x, "slip", i, word);
                    boolean slips;
                    if (thinks) slips = slip >= 500;
                    else { x.state = x.state * 1664525 + 1013904223; slips = (x.state >>> 8) % 1000 < slip; }
                    if (slips) { word = word == 15 ? 0 : word + 1; x.wrong++; }
                    x.said++;
                    for (Jar j : x.jars) if (j.at != null && j.at == i) j.caught.add(word);
                    write(x, thinks, 1, i, word);
                    waits.get(i).add(word);
                    s.heard.remove(0);
                }
            }
            for (int i = 0; i < x.spouts.size(); i++) {
                Integer into = gutter(i);
                if (into == null) continue;
                Spout s = x.spouts.get(into);
                for (int word : waits.get(i)) {
                    if (s.mouth != 2 && s.heard.size() < 20 && !s.heard.contains(word)) {
                        s.heard.add(word); write(x, thinks, 2, into, word);
                    }
                }
            }
            for (Spout s : x.spouts) s.dry = 0;
        }
        x.day++;
    }

    static final class Fault extends RuntimeException {
        final int kind, place;
        Fault(int kind, int place) { super("fault"); this.kind = kind; this.place = place; }
    }
    static final class Parser {
        static final Pattern TOKEN = Pattern.compile("[A-Za-z]+|[0-9]+|[^ \n]", Pattern.DOTALL);
        final List<String> tokens = new ArrayList<>();
        final List<Integer> places = new ArrayList<>();
        int at = 0, depth = 0;
        Parser(String text) {
            Matcher m = TOKEN.matcher(text);
            while (m.find()) { tokens.add(m.group()); places.add(m.start()); }
            tokens.add("END"); places.add(text.length());
        }
        boolean isEnd() { return at == tokens.size() - 1; }
        boolean is(String s) { return !isEnd() && tokens.get(at).equals(s); }
        Fault no(int kind) { return new Fault(kind, places.get(at)); }
        void need(String s) { if (!is(s)) throw no(1); at++; }
        boolean isNumber() { return tokens.get(at).matches("[0-9]{1,4}"); }
        int number(int limit) {
            if (!isNumber()) throw no(1);
            int n = Integer.parseInt(tokens.get(at));
            if (n >= limit) throw no(2);
            at++;
            return n;
        }
        ToIntFunction<Map<String, Integer>> or() {
            ToIntFunction<Map<String, Integer>> a = and();
            while (is("or")) { at++; ToIntFunction<Map<String, Integer>> l = a, r = and(); a = m -> l.applyAsInt(m) + r.applyAsInt(m) > 0 ? 1 : 0; }
            return a;
        }
        ToIntFunction<Map<String, Integer>> and() {
            ToIntFunction<Map<String, Integer>> a = cond();
            while (is("and")) { at++; ToIntFunction<Map<String, Integer>> l = a, r = cond(); a = m -> l.applyAsInt(m) * r.applyAsInt(m); }
            return a;
        }
        ToIntFunction<Map<String, Integer>> cond() {
            if (is("not") || is("(")) {
                if (depth == 8) throw no(3);
                depth++;
                ToIntFunction<Map<String, Integer>> r;
                if (is("not")) { at++; ToIntFunction<Map<String, Integer>> c = cond(); r = m -> c.applyAsInt(m) == 0 ? 1 : 0; }
                else { at++; r = or(); need(")"); }
                depth--;
                return r;
            }
            ToIntFunction<Map<String, Integer>> l = sum();
            String op = tokens.get(at);
            if (!is("<") && !is("=") && !is(">")) throw no(1);
            at++;
            ToIntFunction<Map<String, Integer>> r = sum();
            return m -> { int c = Integer.compare(l.applyAsInt(m), r.applyAsInt(m)); return (op.equals("<") ? c < 0 : op.equals("=") ? c == 0 : c > 0) ? 1 : 0; };
        }
        ToIntFunction<Map<String, Integer>> sum() {
            ToIntFunction<Map<String, Integer>> a = product();
            while (is("+") || is("-")) {
                int sign = is("+") ? 1 : -1; at++;
                ToIntFunction<Map<String, Integer>> l = a, r = product();
                a = m -> l.applyAsInt(m) + sign * r.applyAsInt(m);
            }
            return a;
        }
        ToIntFunction<Map<String, Integer>> product() {
            ToIntFunction<Map<String, Integer>> a = unit();
            while (is("*") || is("/")) {
                boolean times = is("*"); at++;
                ToIntFunction<Map<String, Integer>> l = a;
                if (times) { ToIntFunction<Map<String, Integer>> r = unit(); a = m -> l.applyAsInt(m) * r.applyAsInt(m); }
                else {
                    if (isNumber() && Integer.parseInt(tokens.get(at)) == 0) throw no(2);
                    int by = number(10000);
                    a = m -> l.applyAsInt(m) / by;
                }
            }
            return a;
        }
        static final List<String> FACTS = List.of("stone", "side", "lean", "mouth", "rain", "heard", "dry", "word", "day");
        ToIntFunction<Map<String, Integer>> unit() {
            if (isNumber()) { int n = number(10000); return m -> n; }
            String name = tokens.get(at);
            if (isEnd() || !FACTS.contains(name)) throw no(1);
            at++;
            return m -> m.get(name);
        }
    }
    int text(int k) {
        String s = tape.toString();
        tape.setLength(0);
        fault = 0; place = -1;
        Parser p = new Parser(s);
        try {
            switch (k) {
                case 0: { List<Line> law = parseLaw(p); t.law = law; return law.size(); }
                case 1: { List<int[]> g = parseGutters(p); t.gutters = g; return g.size(); }
                case 2: { List<int[]> x = parseWeather(p); t.weather = x; past.clear(); return x.size(); }
                case 3: { List<Object[]> x = parsePlan(p); t.plan = x; past.clear(); return x.size(); }
                default: return -1;
            }
        } catch (Fault f) { fault = f.kind; place = f.place; return -1; }
    }
    static List<Line> parseLaw(Parser p) {
        List<Line> law = new ArrayList<>();
        while (!p.isEnd()) {
            if (!p.is("hears") && !p.is("jet") && !p.is("slip")) throw p.no(1);
            if (law.size() == 16) throw p.no(3);
            Line l = new Line();
            l.kind = p.tokens.get(p.at++);
            l.worth = p.sum();
            if (p.is("when")) { p.at++; l.when = p.or(); }
            p.need(";");
            law.add(l);
        }
        return law;
    }
    List<int[]> parseGutters(Parser p) {
        List<int[]> g = new ArrayList<>();
        while (!p.isEnd()) {
            if (p.is("spout") && g.size() == 16) throw p.no(3);
            p.need("spout");
            int a = p.number(w.spouts.size());
            p.need("into");
            int place = p.places.get(p.at), b = p.number(w.spouts.size());
            if (a == b) throw new Fault(2, place);
            p.need(";");
            g.add(new int[] {a, b});
        }
        return g;
    }
    static List<int[]> parseWeather(Parser p) {
        List<int[]> g = new ArrayList<>();
        while (!p.isEnd()) {
            if (p.is("day") && g.size() == 16) throw p.no(3);
            p.need("day");
            int a = p.number(1000);
            p.need("rain");
            int b = p.number(10);
            p.need(";");
            g.add(new int[] {a, b});
        }
        return g;
    }
    List<Object[]> parsePlan(Parser p) {
        List<Object[]> g = new ArrayList<>();
        while (!p.isEnd()) {
            if (p.is("on") && g.size() == 16) throw p.no(3);
            p.need("on");
            int day = p.number(1000), who, v = 0;
            String deed = p.tokens.get(p.at);
            if (p.isEnd() || !DEEDS.contains(deed) || deed.equals("empty")) throw p.no(1);
            p.at++;
            switch (deed) {
                case "seat": who = p.number(w.sitters.size()); p.need("at"); v = p.number(w.spouts.size()); break;
                case "rise": who = p.number(w.sitters.size()); break;
                case "jar": who = p.number(6); p.need("at"); v = p.number(w.spouts.size()); break;
                case "tell": who = p.number(w.sitters.size()); v = p.number(16); break;
                default: who = p.number(w.spouts.size());
            }
            p.need(";");
            g.add(new Object[] {day, deed, who, v});
        }
        return g;
    }
    int fault(int what) { return what == 0 ? fault : what == 1 ? place : -1; }

    int of(int spout, int what) {
        if (!spoutIs(spout)) return -2;
        Spout s = w.spouts.get(spout);
        if (what >= 20 && what - 20 < s.heard.size()) return s.heard.get(what - 20);
        if (what >= 40 && what <= 55) return law(w, "slip", spout, what - 40);
        switch (what) {
            case 0: return s.stone; case 1: return s.side; case 2: return s.lean; case 3: return s.mouth;
            case 4: return s.heard.size(); case 5: return s.dry; case 6: return gutter(spout) == null ? -1 : gutter(spout);
            case 7: return law(w, "hears", spout, 0); case 8: return law(w, "jet", spout, 0);
            default: return -2;
        }
    }
    int who(int i, int what) {
        if (!sitterIs(i) || what < 0 || what > 1) return -2;
        Sitter s = w.sitters.get(i);
        return what == 0 ? bits(s.knows) : s.at == null ? -1 : s.at;
    }
    int jar(int i, int what) {
        if (i < 0 || i > 5 || what < 0 || what > 1) return -2;
        return what == 1 ? bits(w.jars[i].caught) : w.jars[i].at == null ? -1 : w.jars[i].at;
    }
    int weather(int day) { return rainOn(day) == null ? -1 : rainOn(day); }
    int book(int i, int what) { return i < 0 || i >= w.book.size() || what < 0 || what > 3 ? -1 : w.book.get(i)[what]; }
    int goes(int n, int what) {
        if (n < 1 || n > 60) return -1;
        World x = w.copy();
        for (int i = 0; i < n; i++) oneDay(x, true);
        if (what == 0) return x.said;
        if (what == 1) return x.wrong;
        if (what == 2) { int sum = 0; for (Spout s : x.spouts) sum += s.heard.size(); return sum; }
        return what >= 10 && what <= 15 ? bits(x.jars[what - 10].caught) : -1;
    }
    List<Integer> way(int spout) {
        List<Integer> path = new ArrayList<>();
        for (Integer at = spout; at != null && !path.contains(at); at = gutter(at)) path.add(at);
        return path;
    }
    int told(int word, int spout) {
        if (word < 0 || word > 15 || !spoutIs(spout)) return -1;
        int set = 0;
        for (int i = 0; i < w.sitters.size(); i++) {
            Sitter s = w.sitters.get(i);
            if (s.knows.contains(word) && s.at != null && way(s.at).contains(spout)) set |= 1 << i;
        }
        return set;
    }
    int ends(int spout, int what) {
        if (!spoutIs(spout) || what < 0 || what > 1) return -1;
        List<Integer> path = way(spout);
        int last = path.get(path.size() - 1);
        if (gutter(last) == null) return what == 0 ? last : path.size() - 1;
        int first = path.indexOf(gutter(last));
        return what == 1 ? first : path.subList(first, path.size()).stream().min(Integer::compare).get();
    }
    int catches(int what) {
        if (what < 0 || what > 1) return -1;
        int best = -1;
        for (int set = 0; set < 1 << w.spouts.size(); set++) {
            boolean all = true;
            for (int i = 0; i < w.spouts.size(); i++) {
                boolean passes = false;
                for (int s : way(i)) passes |= (set >> s & 1) == 1;
                all &= passes;
            }
            if (all && (best < 0 || Integer.bitCount(set) < Integer.bitCount(best))) best = set;
        }
        return what == 0 ? Integer.bitCount(best) : best;
    }
    int seat(int a, int b) {
        if (a == -1) { t.seats.clear(); return 0; }
        if (!sitterIs(a) || !spoutIs(b) || t.seats.size() == 12) return -1;
        t.seats.add(new int[] {a, b});
        return t.seats.size();
    }
    void allWays(List<Integer> who, int i, Map<Integer, Integer> soFar, List<Map<Integer, Integer>> out) {
        if (i == who.size()) { out.add(new HashMap<>(soFar)); return; }
        Set<Integer> can = new TreeSet<>();
        for (int[] s : t.seats) if (s[0] == who.get(i)) can.add(s[1]);
        for (int b : can) if (!soFar.containsValue(b)) { soFar.put(who.get(i), b); allWays(who, i + 1, soFar, out); soFar.remove(who.get(i)); }
    }
    int ways(int what) {
        Set<Integer> who = new TreeSet<>();
        Set<List<Integer>> couples = new HashSet<>();
        for (int[] s : t.seats) { who.add(s[0]); couples.add(List.of(s[0], s[1])); }
        List<Map<Integer, Integer>> all = new ArrayList<>();
        allWays(new ArrayList<>(who), 0, new HashMap<>(), all);
        if (what == 0) return all.size();
        if (what == 1) {
            int sure = 0;
            for (List<Integer> c : couples) if (all.stream().allMatch(m -> m.get(c.get(0)).equals(c.get(1)))) sure++;
            return sure;
        }
        if (what != 2) return -1;
        int best = -1;
        long least = 0;
        for (int a : who) {
            long most = 0;
            for (int b = 0; b < 10; b++) { int spout = b; most = Math.max(most, all.stream().filter(m -> m.get(a) == spout).count()); }
            if (best < 0 || most < least) { best = a; least = most; }
        }
        return best;
    }
    int quarrel(int a, int b) {
        if (a == -1) { t.quarrels.clear(); return 0; }
        if (a < 0 || a > 9 || b < 0 || b > 9 || a == b || t.quarrels.size() == 14) return -1;
        t.quarrels.add(new int[] {a, b});
        return t.quarrels.size();
    }
    int parts(int what) {
        if (what < 0 || what > 1) return -1;
        List<Set<Integer>> groups = new ArrayList<>();
        for (int[] q : t.quarrels) {
            Set<Integer> joined = new TreeSet<>(List.of(q[0], q[1]));
            for (Set<Integer> g : new ArrayList<>(groups)) if (g.contains(q[0]) || g.contains(q[1])) { joined.addAll(g); groups.remove(g); }
            groups.add(joined);
        }
        if (what == 1) return groups.size();
        int sum = 0;
        for (Set<Integer> g : groups) {
            int mask = bits(g), most = -1;
            for (int side = mask; ; side = (side - 1) & mask) {
                boolean fine = true;
                for (int[] q : t.quarrels) if (g.contains(q[0])) fine &= (side >> q[0] & 1) != (side >> q[1] & 1);
                if (fine) most = Math.max(most, Integer.bitCount(side));
                if (side == 0) break;
            }
            if (most < 0) return -1;
            sum += most;
        }
        return sum;
    }
    int known(int words, int what) {
        if (words < 0 || words > 65535 || what < 0 || what > 1) return -1;
        int best = -1;
        for (int set = 0; set < 1 << w.spouts.size(); set++) {
            int all = 0;
            for (int i = 0; i < w.spouts.size(); i++) if ((set >> i & 1) == 1) all |= bits(w.spouts.get(i).heard);
            if ((all & words) == words && (best < 0 || Integer.bitCount(set) < Integer.bitCount(best))) best = set;
        }
        return best < 0 ? -1 : what == 0 ? Integer.bitCount(best) : best;
    }
    boolean latin(int word, int to) {
        if (word < 0 || word > 15 || to < 0 || to > 15) return false;
        t.latin[word] = to;
        return true;
    }
    int again(int word) {
        if (word == -1) {
            int[] at = t.latin.clone();
            for (int times = 1; times < 100000; times++) {
                boolean all = true;
                for (int i = 0; i < 16; i++) all &= at[i] == i;
                if (all) return times;
                for (int i = 0; i < 16; i++) at[i] = t.latin[at[i]];
                if (times > 200) return -1;
            }
        }
        if (word < 0 || word > 15) return -1;
        Set<Integer> met = new HashSet<>();
        int at = word, steps = 0;
        while (met.add(at)) { at = t.latin[at]; steps++; }
        return steps;
    }
    boolean mason(int i, boolean stone, int row) {
        if (i < 0 || i > 3 || row < 0 || row > 9999) return false;
        String s = String.format("%04d", row);
        char[] sorted = s.toCharArray();
        Arrays.sort(sorted);
        if (!new String(sorted).equals("0123")) return false;
        (stone ? t.stones : t.masons)[i] = s;
        return true;
    }
    int keeps(int i) {
        if (i < -1 || i > 3) return -1;
        Map<Integer, Integer> has = new HashMap<>();
        int[] next = new int[4];
        int offers = 0;
        while (has.size() < 4) {
            int m = 0;
            while (has.containsKey(m)) m++;
            int stone = t.masons[m].charAt(next[m]++) - '0';
            offers++;
            Integer rival = null;
            for (Map.Entry<Integer, Integer> e : has.entrySet()) if (e.getValue() == stone) rival = e.getKey();
            String row = t.stones[stone];
            if (rival == null || row.indexOf('0' + m) < row.indexOf('0' + rival)) { if (rival != null) has.remove(rival); has.put(m, stone); }
        }
        return i == -1 ? offers : has.get(i);
    }
    int surmise(int p, int n, int m) {
        if (p < 0 || p > 1000 || n < 0 || n > 20 || m < 0 || m > 20) return -1;
        java.math.BigInteger million = java.math.BigInteger.valueOf(1000000), q = java.math.BigInteger.valueOf(p * 1000L);
        for (int i = 0; i < n + m; i++) {
            java.math.BigInteger a = java.math.BigInteger.valueOf(i < n ? 600 : 400), b = java.math.BigInteger.valueOf(i < n ? 400 : 600);
            q = q.multiply(a).multiply(million).divide(q.multiply(a).add(million.subtract(q).multiply(b)));
        }
        return q.intValue();
    }
    int drought(int rain) {
        if (rain == -1) { t.drought.clear(); return 0; }
        if (rain < 0 || rain > 9 || t.drought.size() == 40) return -1;
        t.drought.add(rain);
        return t.drought.size();
    }
    int longest(int what) {
        if (what < 0 || what > 1) return -1;
        for (int length = t.drought.size(); length > 0; length--) {
            for (int from = 0; from + length <= t.drought.size(); from++) {
                if (t.drought.subList(from, from + length).stream().allMatch(r -> r == 0)) return what == 0 ? length : from;
            }
        }
        return what == 0 ? 0 : -1;
    }
    int leans(int c) {
        if (c < 1 || c > 99) return -1;
        List<Integer> leans = new ArrayList<>();
        for (Spout s : w.spouts) leans.add(s.lean);
        int centuries = 0;
        while (leans.stream().anyMatch(l -> l < c)) { leans.replaceAll(l -> l + l / 10 + 1); centuries++; }
        return centuries;
    }
    int chapter(int minutes) {
        if (minutes == -1) { t.reign.clear(); return 0; }
        if (minutes < 1 || minutes > 60 || t.reign.size() == 12) return -1;
        t.reign.add(minutes);
        return t.reign.size();
    }
    int read(int k, int what) {
        int n = t.reign.size();
        if (k < 1 || k > 6 || k > n || what < 0 || what > 1) return -1;
        int best = Integer.MAX_VALUE, second = -1;
        for (int cuts = 0; cuts < 1 << n - 1; cuts++) {
            if (Integer.bitCount(cuts) != k - 1) continue;
            int greatest = 0, sum = 0;
            for (int i = 0; i < n; i++) {
                if (i > 0 && (cuts >> i - 1 & 1) == 1) sum = 0;
                sum += t.reign.get(i);
                greatest = Math.max(greatest, sum);
            }
            int begins = cuts == 0 ? -1 : Integer.numberOfTrailingZeros(cuts) + 1;
            if (greatest < best || greatest == best && begins < second) { best = greatest; second = begins; }
        }
        return what == 0 ? best : second;
    }
    private static final Map<List<Integer>, Boolean> WINS = new HashMap<>();
    /** Whether who is to take wins, by trying; heaps are told sorted, so that few are tried twice. */
    static boolean wins(List<Integer> heaps) {
        List<Integer> key = new ArrayList<>(heaps);
        key.removeIf(h -> h == 0);
        key.sort(null);
        Boolean old = WINS.get(key);
        if (old != null) return old;
        boolean win = false;
        for (int i = 0; i < key.size() && !win; i++) for (int take : new int[] {1, 2, 4}) {
            if (take > key.get(i) || win) continue;
            List<Integer> next = new ArrayList<>(key);
            next.set(i, key.get(i) - take);
            win = !wins(next);
        }
        WINS.put(key, win);
        return win;
    }
    int game(int what) {
        if (what < 0 || what > 1) return -1;
        List<Integer> heaps = new ArrayList<>();
        for (Spout s : w.spouts) heaps.add(s.heard.size());
        for (int i = 0; i < heaps.size(); i++) for (int take : new int[] {1, 2, 4}) {
            if (take > heaps.get(i)) continue;
            List<Integer> next = new ArrayList<>(heaps);
            next.set(i, heaps.get(i) - take);
            if (!wins(next)) return what == 0 ? i : take;
        }
        return -1;
    }
    boolean undo() { if (past.isEmpty()) return false; w = past.removeLast(); return true; }
    boolean image(boolean taken) {
        if (taken) { imageWorld = w.copy(); imageTold = t.copy(); return true; }
        if (imageWorld == null) return false;
        w = imageWorld.copy(); t = imageTold.copy(); past.clear();
        return true;
    }
    int look(int what) {
        int[] all = {w.spouts.size(), w.sitters.size(), w.rain, w.said, w.wrong, w.day, w.book.size(), w.state, t.law.size(),
            t.gutters.size(), t.weather.size(), t.plan.size(), past.size()};
        return what < 0 || what >= all.length ? -1 : all[what];
    }
}
