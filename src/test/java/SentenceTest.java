import java.io.IOException;
import java.nio.file.Files;
import java.nio.file.Path;
import java.util.List;
import java.util.Set;
import java.util.TreeSet;
import java.util.regex.Matcher;
import java.util.regex.Pattern;
import java.util.stream.Collectors;
import java.util.stream.Stream;

/** No promise and no part of the terms is without a sentence that a test of its bounds is about. */
public final class SentenceTest {
    private static final int PROMISES = 39;

    public static void main(String[] args) throws IOException {
        Set<String> named = new TreeSet<>();
        for (Path file : sources()) {
            Matcher m = Pattern.compile("Check\\.sentence\\(\"([^\"]+)\"").matcher(Check.read(file));
            while (m.find()) {
                named.add(m.group(1));
            }
        }
        int wrong = 0;
        for (int i = 1; i <= PROMISES + 4; i++) {
            String where = i <= PROMISES ? "Promise " + i : "Terms " + (i - PROMISES);
            if (!named.contains(where)) {
                wrong++;
                System.out.println("SentenceTest: no test is about " + where);
            }
        }
        System.out.println("SentenceTest: " + named.size() + " parts of the document have tests, " + wrong + " have none");
        if (wrong != 0) {
            System.exit(1);
        }
    }

    private static List<Path> sources() throws IOException {
        try (Stream<Path> files = Files.list(Path.of("src/test/java"))) {
            return files.filter(f -> f.toString().endsWith("Test.java")).collect(Collectors.toList());
        }
    }
}
