import java.lang.management.ManagementFactory;
import java.lang.reflect.Constructor;
import java.lang.reflect.Field;
import java.lang.reflect.Method;
import java.lang.reflect.Modifier;
import java.nio.file.Files;
import java.nio.file.Path;
import java.util.Arrays;
import java.util.List;
import java.util.TreeSet;
import java.util.regex.Matcher;
import java.util.regex.Pattern;

/** What of LANGUAGE.md can be seen from outside: the face, words that may not stand, sizes, and the room. */
public final class LanguageTest {
    private static final String FACE = "act again book catches chapter days drought end ends fault feed game goes image jar keeps known latin"
        + " leans longest look mason of parts quarrel read seat set sitter spout state surmise text told undo ways weather who";
    private static int wrong = 0;

    public static void main(String[] args) throws Exception {
        Path source = Path.of(args.length > 0 ? args[0] : "src/main/java/SpoutNews.java");
        String code = withoutCommentsAndTexts(Files.readString(source));
        theFace();
        theWords(code);
        theSizes(code);
        theRoom();
        System.out.println("LanguageTest: " + (wrong == 0 ? "all is as told" : wrong + " faults"));
        if (wrong != 0) {
            System.exit(1);
        }
    }

    private static void claim(String what, boolean holds) {
        if (!holds) {
            wrong++;
            System.out.println("LanguageTest: " + what);
        }
    }

    private static String withoutCommentsAndTexts(String s) {
        String quiet = s.replaceAll("\"(\\\\.|[^\"\\\\])*\"", "\"\"").replaceAll("'(\\\\.|[^'\\\\])'", "' '");
        return quiet.replaceAll("(?s)/\\*.*?\\*/", "").replaceAll("//[^\n]*", "");
    }

    private static void theFace() {
        Class<?> c = SpoutNews.class;
        claim("public and final", Modifier.isPublic(c.getModifiers()) && Modifier.isFinal(c.getModifiers()));
        TreeSet<String> open = new TreeSet<>();
        TreeSet<String> hidden = new TreeSet<>();
        for (Method m : c.getDeclaredMethods()) {
            (Modifier.isPrivate(m.getModifiers()) ? hidden : open).add(m.getName());
        }
        claim("methods are the document's: " + open, open.equals(new TreeSet<>(List.of(FACE.split(" ")))));
        for (Class<?> inner : c.getDeclaredClasses()) {
            claim(inner + " is static", Modifier.isStatic(inner.getModifiers()));
            for (Method m : inner.getDeclaredMethods()) {
                hidden.add(m.getName());
            }
            claim(inner + " has few fields", notConstant(inner) <= 20);
        }
        claim("few classes", c.getDeclaredClasses().length <= 11);
        hidden.retainAll(open);
        claim("private methods with public names: " + hidden, hidden.isEmpty());
        for (Field f : c.getDeclaredFields()) {
            claim("field " + f.getName(), f.getName().equals("NONE") || Modifier.isPrivate(f.getModifiers()));
            claim("static field " + f.getName(), !Modifier.isStatic(f.getModifiers()) || Modifier.isFinal(f.getModifiers()));
        }
        for (Constructor<?> k : c.getDeclaredConstructors()) {
            claim("one constructor without arguments", k.getParameterCount() == 0);
        }
        claim("NONE", SpoutNews.NONE == -1);
    }

    private static long notConstant(Class<?> c) {
        return Arrays.stream(c.getDeclaredFields()).filter(f -> !Modifier.isStatic(f.getModifiers())).count();
    }

    private static void theWords(String code) {
        String[] never = {"throw", "throws", "try", "catch", "synchronized", "assert", "instanceof", "package", "protected", "Object",
            "HashMap", "Random", "System.out", "System.nano", "Thread", "hashCode", "toString", "values", "var", "volatile", "native"};
        for (String word : never) {
            claim("the word " + word, !Pattern.compile("\\b" + Pattern.quote(word) + "\\b").matcher(code).find());
        }
        claim("no lambda", !code.contains("->"));
        claim("no method reference", !code.contains("::"));
        claim("no while that has no counter", !Pattern.compile("\\b(while|do)\\b").matcher(code).find());
        claim("one import", code.split("\\bimport\\b").length == 2 && code.contains("import java.util.Arrays;"));
        Matcher m = Pattern.compile("\\b(Math|Integer|Long|Arrays|System)\\.(\\w+)").matcher(code);
        List<String> told = List.of("Math.min", "Math.max", "Integer.bitCount", "Arrays.fill", "System.arraycopy");
        while (m.find()) {
            claim("the library's " + m.group(), told.contains(m.group()));
        }
        for (char c : code.toCharArray()) {
            claim("a sign beyond 127", c < 128);
        }
    }

    /** Methods of at most sixty lines, with at most seven parameters. */
    private static void theSizes(String code) {
        Pattern head = Pattern.compile("^( +)(?!return|else|case|new)[\\w\\[\\] ]*\\b(\\w+)\\(([^()]*)\\) \\{$");
        String[] lines = code.split("\n", -1);
        for (int i = 0; i < lines.length; i++) {
            Matcher m = head.matcher(lines[i]);
            if (!m.matches() || m.group(2).equals("if") || m.group(2).equals("for") || m.group(2).equals("switch")) {
                continue;
            }
            int end = i;
            while (!lines[end].equals(m.group(1) + "}")) {
                end++;
            }
            claim(m.group(2) + " is long", end - i < 60);
            claim(m.group(2) + " takes many", m.group(3).split(",").length <= 7);
        }
    }

    /** What one object and 512 of its dearest calls make stays far below the room of a run. */
    private static void theRoom() {
        com.sun.management.ThreadMXBean threads = (com.sun.management.ThreadMXBean) ManagementFactory.getThreadMXBean();
        long id = Thread.currentThread().getId();
        busyRun();
        long before = threads.getThreadAllocatedBytes(id);
        busyRun();
        long made = threads.getThreadAllocatedBytes(id) - before;
        claim("a run makes " + made + " bytes", made < 100_000);
    }

    private static void busyRun() {
        SpoutNews x = new SpoutNews();
        for (int i = 0; i < 10; i++) {
            x.spout(i % 6, i % 4, i);
            x.sitter(65535);
            x.act(0, i, i);
        }
        x.image(true);
        for (int i = 0; i < 18; i++) {
            x.feed(0x6a657420, 0x393b6a65, 0x7420393b, 0x6a657420, 0x393b2020);
            x.text(i % 4);
            x.seat(i % 3, i % 4);
            x.quarrel(i % 10, (i + 3) % 10);
            x.chapter(i + 1);
            x.days(60);
            x.set(0, 0, i % 10);
            x.goes(60, 2);
            x.known(65535, 0);
            x.ways(1);
            x.parts(0);
            x.read(6, 1);
            x.again(-1);
            x.keeps(-1);
            x.catches(1);
            x.game(0);
            x.undo();
            x.image(i % 2 == 0);
            for (int k = 0; k < 8; k++) {
                x.of(k, 40);
            }
        }
    }
}
