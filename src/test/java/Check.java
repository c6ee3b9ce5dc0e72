import java.io.IOException;
import java.nio.file.Files;
import java.nio.file.Path;
import java.util.Arrays;

/** Counts the answers that are as due and prints those that are not, each under the document's own words. */
final class Check {
    private static int held = 0;
    private static int wrong = 0;
    private static String sentence = "";
    private static String document = null;

    private Check() {
    }

    /** The words of the document that the next checks are about; they must stand there just so. */
    static void sentence(String where, String words) {
        sentence = where + ", \"" + words + "\"";
        // Where the document is not at hand, only the answers can be held against what is due.
        if (!theDocument().isEmpty() && !theDocument().contains(words)) {
            wrong++;
            System.out.println(sentence + ": the document has no such words");
        }
    }

    private static String theDocument() {
        if (document == null) {
            document = read(Path.of("../shared/DOC.md")).replaceAll("```\\w*", " ").replaceAll("\\s+", " ");
        }
        return document;
    }

    /** A file as one text, empty if it can't be read. */
    static String read(Path file) {
        try {
            return Files.readString(file);
        } catch (IOException e) {
            System.out.println(file + " can't be read");
            return "";
        }
    }

    static void due(String call, long got, long want) {
        if (got == want) {
            held++;
        } else {
            wrong++;
            System.out.println(sentence + ": " + call + " answered " + got + ", due is " + want);
        }
    }

    static void due(String call, boolean got, boolean want) {
        due(call, got ? 1 : 0, want ? 1 : 0);
    }

    /** What is asked of a run must be answered so. */
    static void due(String call, Run run, Run.Call asked, long want) {
        due(call, run.ask(asked), want);
    }

    /** A call that must be answered so and after which all is seen that was seen before it. */
    static void quiet(String call, Run run, Run.Call asked, long want) {
        due(call, run.ask(asked), want);
        due(call + ": first sight that is another one then", Arrays.mismatch(run.allSeen(), run.then(asked).allSeen()), -1);
    }

    static void end(String test) {
        System.out.println(test + ": " + held + " passed, " + wrong + " failed");
        if (wrong != 0 || held == 0) {
            System.exit(1);
        }
    }
}
