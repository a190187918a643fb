import java.io.IOException;
import java.io.UncheckedIOException;
import java.nio.file.Files;
import java.nio.file.Path;
import java.util.HashSet;
import java.util.Set;

/** Counts the answers that are not the ones due; end() closes a test with exit code 1 if there was one. */
final class Checks {
    interface Call {
        void make();
    }

    private static final Path DOCUMENT = Path.of("../shared/DOC.md");

    private final Set<String> quoted = new HashSet<>();
    private String sentence = "";
    private int checked = 0;
    private int wrong = 0;

    void due(String call, long got, long want) {
        verdict(call, got == want, String.valueOf(got), String.valueOf(want));
    }

    void due(String call, double got, double want) {
        verdict(call, got == want, String.valueOf(got), String.valueOf(want));
    }

    /** Names the sentence that the answers from here on are about; it has to stand in the document word by word. */
    void says(String words) {
        sentence = words + " | ";
        quoted.add(words);
        verdict("the document", squeezed(document()).contains(words), "no such words", "these words");
    }

    /** Each line of the document that begins so has been quoted, as a whole, by says(). */
    void quotedAllThatBegin(String beginning) {
        sentence = "";
        for (String line : document().split("\n")) {
            if (line.startsWith(beginning)) {
                verdict("a test of: " + line, quoted.contains(line), "none", "one");
            }
        }
    }

    void accepted(String call, Call made) {
        RuntimeException thrown = thrownBy(made);
        verdict(call, thrown == null, String.valueOf(thrown), "no exception");
    }

    /** Also looks that the refused call changed nothing, and that the class threw by itself, not the library for it. */
    void refused(String call, HarbourlightMonitor x, Class<? extends RuntimeException> due, Call made) {
        long before = x.digest();
        thrown(call, due, made);
        due(call + " changes nothing: digest()", x.digest(), before);
    }

    void thrown(String call, Class<? extends RuntimeException> due, Call made) {
        RuntimeException thrown = thrownBy(made);
        String got = thrown == null ? "no exception" : thrown.getClass().getSimpleName() + " of " + throwerOf(thrown);
        verdict(call, got.equals(due.getSimpleName() + " of HarbourlightMonitor"), got, due.getSimpleName());
    }

    void badIndex(String call, HarbourlightMonitor x, Call made) {
        refused(call, x, IndexOutOfBoundsException.class, made);
    }

    void badArgument(String call, HarbourlightMonitor x, Call made) {
        refused(call, x, IllegalArgumentException.class, made);
    }

    void badState(String call, HarbourlightMonitor x, Call made) {
        refused(call, x, IllegalStateException.class, made);
    }

    void end() {
        System.out.println(checked + " answers looked at, " + wrong + " not as due");
        if (wrong != 0) {
            System.exit(1);
        }
    }

    private static RuntimeException thrownBy(Call made) {
        try {
            made.make();
            return null;
        } catch (RuntimeException e) {
            return e;
        }
    }

    private static String throwerOf(RuntimeException thrown) {
        StackTraceElement[] frames = thrown.getStackTrace();
        return frames.length == 0 ? "the machine" : frames[0].getClassName();
    }

    private static String document() {
        try {
            return Files.readString(DOCUMENT);
        } catch (IOException e) {
            throw new UncheckedIOException(e);
        }
    }

    private static String squeezed(String text) {
        return text.replaceAll("\\s+", " ");
    }

    private void verdict(String call, boolean isRight, String got, String want) {
        checked++;
        if (!isRight) {
            wrong++;
            System.out.println(sentence + call + " answered " + got + ", due is " + want);
        }
    }
}
