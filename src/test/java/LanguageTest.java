import java.lang.management.ManagementFactory;
import java.lang.reflect.Array;
import java.lang.reflect.Constructor;
import java.lang.reflect.Field;
import java.lang.reflect.Method;
import java.lang.reflect.Modifier;
import java.nio.file.Path;
import java.util.Arrays;
import java.util.Collections;
import java.util.IdentityHashMap;
import java.util.Set;
import java.util.TreeSet;
import java.util.regex.Matcher;
import java.util.regex.Pattern;
import java.util.stream.Collectors;

/** What of LANGUAGE.md can be seen from outside: the face, and the room that objects and calls take. */
public final class LanguageTest {
    private static int wrong = 0;

    public static void main(String[] args) throws IllegalAccessException {
        theFace();
        theRoomOfAnObject();
        theRoomOfCalls();
        System.out.println("LanguageTest: " + (wrong == 0 ? "all is as told" : wrong + " faults"));
        if (wrong != 0) {
            System.exit(1);
        }
    }

    private static void claim(String what, boolean holds) {
        if (!holds) {
            wrong++;
            System.out.println("LanguageTest: " + what);
        }
    }

    private static void theFace() {
        Class<?> c = SpoutNews.class;
        claim("public and final", Modifier.isPublic(c.getModifiers()) && Modifier.isFinal(c.getModifiers()));
        Set<String> seen = new TreeSet<>();
        Set<String> names = new TreeSet<>();
        for (Method m : c.getDeclaredMethods()) {
            if (!Modifier.isPrivate(m.getModifiers())) {
                seen.add(Modifier.toString(m.getModifiers()) + " " + m.getReturnType() + " " + m.getName() + types(m.getParameterTypes()));
                names.add(m.getName());
            }
        }
        for (Constructor<?> k : c.getDeclaredConstructors()) {
            seen.add(Modifier.toString(k.getModifiers()) + " " + k.getName() + types(k.getParameterTypes()));
        }
        for (Field f : c.getDeclaredFields()) {
            if (!Modifier.isPrivate(f.getModifiers())) {
                seen.add(Modifier.toString(f.getModifiers()) + " " + f.getType() + " " + f.getName());
            }
        }
        Set<String> due = faceOfTheDocument();
        claim("the document has a face", due.size() == 40);
        claim("the face is " + seen + ", due is " + due, seen.equals(due));
        claim("NONE", SpoutNews.NONE == -1);
        for (Class<?> inner : c.getDeclaredClasses()) {
            claim(inner + " is static", Modifier.isStatic(inner.getModifiers()));
            for (Method m : inner.getDeclaredMethods()) {
                claim(inner + " has a method with a public name: " + m.getName(), !names.contains(m.getName()));
            }
        }
    }

    private static String types(Class<?>[] all) {
        return Arrays.stream(all).map(Class::getName).collect(Collectors.joining(", ", "(", ")"));
    }

    /** The lines of "The public face", without the names of what is handed over and without what a constant is. */
    private static Set<String> faceOfTheDocument() {
        String document = Check.read(Path.of("../shared/DOC.md"));
        Set<String> all = new TreeSet<>();
        Matcher m = Pattern.compile("(?m)^    (public [^;]*);$").matcher(document);
        while (m.find()) {
            all.add(m.group(1).replaceAll(" = .*", "").replaceAll("(int|boolean) \\w+(?=[,)])", "$1"));
        }
        return all;
    }

    /** Room for some 600,000 objects and 7.3 million fields and elements: several hundred of these must fit. */
    private static void theRoomOfAnObject() throws IllegalAccessException {
        Set<Object> met = Collections.newSetFromMap(new IdentityHashMap<>());
        long held = heldBy(new SpoutNews(), met);
        claim("an object is made of " + met.size() + " objects and arrays", met.size() <= 300);
        claim("an object holds " + held + " fields and elements", held <= 12_000);
    }

    /** How many fields and elements an object and all it leads to have; what was met before counts no more. */
    private static long heldBy(Object o, Set<Object> met) throws IllegalAccessException {
        if (o == null || !met.add(o)) {
            return 0;
        }
        if (o.getClass().isArray()) {
            long held = Array.getLength(o);
            for (int i = 0; i < Array.getLength(o) && !o.getClass().getComponentType().isPrimitive(); i++) {
                held += heldBy(Array.get(o, i), met);
            }
            return held;
        }
        long held = 0;
        for (Field f : o.getClass().getDeclaredFields()) {
            if (Modifier.isStatic(f.getModifiers())) {
                continue;
            }
            held++;
            if (!f.getType().isPrimitive()) {
                f.setAccessible(true);
                held += heldBy(f.get(o), met);
            }
        }
        return held;
    }

    /** What one object and 512 of its dearest calls make stays far below the room of a run. */
    private static void theRoomOfCalls() {
        com.sun.management.ThreadMXBean threads = (com.sun.management.ThreadMXBean) ManagementFactory.getThreadMXBean();
        long id = Thread.currentThread().getId();
        busyRun();
        long before = threads.getThreadAllocatedBytes(id);
        busyRun();
        long made = threads.getThreadAllocatedBytes(id) - before;
        claim("a run makes " + made + " bytes", made < 100_000);
    }

    private static void busyRun() {
        SpoutNews x = new SpoutNews();
        for (int i = 0; i < 10; i++) {
            x.spout(i % 6, i % 4, i);
            x.sitter(65535);
            x.act(0, i, i);
        }
        x.image(true);
        for (int i = 0; i < 18; i++) {
            x.feed(0x6a657420, 0x393b6a65, 0x7420393b, 0x6a657420, 0x393b2020);
            x.text(i % 4);
            x.seat(i % 3, i % 4);
            x.quarrel(i % 10, (i + 3) % 10);
            x.chapter(i + 1);
            x.days(60);
            x.set(0, 0, i % 10);
            x.goes(60, 2);
            x.known(65535, 0);
            x.ways(1);
            x.parts(0);
            x.read(6, 1);
            x.again(-1);
            x.keeps(-1);
            x.catches(1);
            x.game(0);
            x.undo();
            x.image(i % 2 == 0);
            for (int k = 0; k < 8; k++) {
                x.of(k, 40);
            }
        }
    }
}
