import java.io.IOException;
import java.lang.reflect.Method;
import java.net.URL;
import java.net.URLClassLoader;
import java.nio.file.Files;
import java.nio.file.Path;
import java.util.ArrayList;
import java.util.List;
import java.util.regex.Matcher;
import java.util.regex.Pattern;
import javax.tools.ToolProvider;

/** The examples of README.md are compiled as they stand there, and each call must answer what stands behind it. */
public final class ReadmeTest {
    private static final Pattern BLOCK = Pattern.compile("```java\n(.*?)```", Pattern.DOTALL);
    private static final Pattern CALL = Pattern.compile("^((?:x\\.|tell\\().*\\)); +// (-?\\d+|true|false)\\b.*$");

    public static void main(String[] args) throws Exception {
        String readme = Check.read(Path.of("README.md"));
        List<String> calls = new ArrayList<>();
        List<String> due = new ArrayList<>();
        String program = program(readme, calls, due);
        Object[] got = answers(program);
        for (int i = 0; i < Math.min(due.size(), got.length); i++) {
            Check.due(calls.get(i) + ", " + got[i] + " for " + due.get(i), String.valueOf(got[i]).equals(due.get(i)), true);
        }
        Check.due("as many answers as calls", got.length, due.size());
        everyCallIsNamed(readme);
        Check.end("ReadmeTest");
    }

    /** Blocks that begin with "static" are methods, all others runs; each call's answer is put into a list. */
    private static String program(String readme, List<String> calls, List<String> due) {
        StringBuilder methods = new StringBuilder();
        StringBuilder runs = new StringBuilder();
        Matcher block = BLOCK.matcher(readme);
        while (block.find()) {
            if (block.group(1).startsWith("static")) {
                methods.append(block.group(1));
            } else {
                runs.append("{\n");
                for (String line : block.group(1).split("\n")) {
                    Matcher call = CALL.matcher(line);
                    if (call.matches()) {
                        calls.add(call.group(1));
                        due.add(call.group(2));
                        runs.append("all.add(").append(call.group(1)).append(");\n");
                    } else {
                        runs.append(line).append("\n");
                    }
                }
                runs.append("}\n");
            }
        }
        return "public final class Example {\n" + methods + "public static Object[] answers() {\n"
            + "java.util.List<Object> all = new java.util.ArrayList<>();\n" + runs + "return all.toArray();\n}\n}\n";
    }

    private static Object[] answers(String program) throws IOException, ReflectiveOperationException {
        Path folder = Files.createTempDirectory("readme");
        Path source = folder.resolve("Example.java");
        Path compiled = folder.resolve("Example.class");
        try {
            Files.writeString(source, program);
            int exit = ToolProvider.getSystemJavaCompiler().run(null, null, null, "-proc:none", "-cp", System.getProperty("java.class.path"),
                "-d", folder.toString(), source.toString());
            Check.due("the examples compile", exit, 0);
            if (exit != 0) {
                return new Object[0];
            }
            try (URLClassLoader loader = new URLClassLoader(new URL[] {folder.toUri().toURL()})) {
                return (Object[]) loader.loadClass("Example").getMethod("answers").invoke(null);
            }
        } finally {
            Files.deleteIfExists(source);
            Files.deleteIfExists(compiled);
            Files.deleteIfExists(folder);
        }
    }

    private static void everyCallIsNamed(String readme) {
        for (Method m : SpoutNews.class.getDeclaredMethods()) {
            if (java.lang.reflect.Modifier.isPublic(m.getModifiers())) {
                Check.due(m.getName() + " is named", readme.contains("`" + m.getName() + "`"), true);
            }
        }
    }
}
