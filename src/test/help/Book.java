import java.io.IOException;
import java.nio.charset.StandardCharsets;
import java.nio.file.Files;
import java.nio.file.Path;
import java.util.Arrays;

/**
 * The document as a list of sentences to be held: a test names the sentence that it is of, in the
 * document's own words, and every word of the test's chapters must have been named in the end.
 */
final class Book {
    /** A call with one number left open. */
    interface Call {
        long by(int v);
    }

    /** A call on an object. */
    interface Ask {
        long on(DripStone x);
    }

    private static final int MIN = Integer.MIN_VALUE, MAX = Integer.MAX_VALUE;

    private final String text;
    private final boolean[] held;
    private int chapterFrom;
    private int chapterTo;
    private String sentence = "no sentence yet";
    private int asked;
    private int wrong;

    /** The chapters from one heading up to another. */
    Book(String from, String to) throws IOException {
        String doc = Files.readString(Path.of("../shared/DOC.md"), StandardCharsets.UTF_8);
        int start = doc.indexOf("\n## " + from);
        int end = doc.indexOf("\n## " + to);
        if (start < 0 || end < start) {
            throw new IllegalArgumentException("the document has no chapters " + from + " to " + to);
        }
        text = withoutFrame(doc.substring(start, end + 1));
        held = new boolean[text.length()];
        chapterTo = text.length();
    }

    /** Leaves headings, faces of methods and marks of chapters blank: they say nothing to be held. */
    private static String withoutFrame(String part) {
        StringBuilder plain = new StringBuilder();
        for (String line : part.split("\n")) {
            String kept = line;
            if (line.startsWith("Ahead of the calls")) {
                // only the last of these lines tells more than a chapter's name
                kept = line.contains("---- 5 ") ? line.substring(line.indexOf("---- 5 ") + 7) : "";
            } else if (line.startsWith("```")) {
                kept = "";
            } else if (!line.startsWith("## ")) {
                kept = line.replaceAll("^==== \\d ", "").replaceAll("^`[^`]*`: ?", "");
            }
            plain.append(kept).append('\n');
        }
        return plain.toString();
    }

    /** From now on sentences are those of this promise. */
    void promise(int number) {
        chapterFrom = text.indexOf("## Promise " + number + ":");
        if (chapterFrom < 0) {
            fail("the document has no promise " + number);
            chapterFrom = 0;
        }
        chapterFrom = text.indexOf('\n', chapterFrom);
        int next = text.indexOf("\n## ", chapterFrom);
        chapterTo = next < 0 ? text.length() : next;
    }

    /** From now on what is due is due by this sentence. */
    void sentence(String words) {
        sentence = words;
        int at = text.indexOf(words, chapterFrom);
        while (at >= 0 && held[at] && text.indexOf(words, at + 1) >= 0) {
            at = text.indexOf(words, at + 1);
        }
        if (at < 0 || at + words.length() > chapterTo) {
            fail("this is no sentence of the document");
            return;
        }
        Arrays.fill(held, at, at + words.length(), true);
    }

    private void fail(String what) {
        wrong++;
        System.out.println("\"" + sentence + "\": " + what);
    }

    void due(String what, long got, long want) {
        asked++;
        if (got != want) {
            fail(what + " answered " + got + ", due is " + want);
        }
    }

    /** The first and the last number that are as told, and the first that are not on both sides. */
    void range(String what, int low, int high, Call call, long refusal) {
        int[] inside = {low, high};
        int[] outside = {low - 1, high + 1, MIN, MAX};
        for (int v : inside) {
            asked++;
            long got = call.by(v);
            if (got == refusal) {
                fail(what + " " + v + " is refused by " + got);
            }
        }
        for (int v : outside) {
            due(what + " " + v, call.by(v), refusal);
        }
    }

    /** A refusal, and behind it the answers of an object that never had the call. */
    void refused(String what, States state, Ask ask, long refusal) {
        DripStone x = state.make();
        due(what + " on " + state, ask.on(x), refusal);
        long[] got = States.answers(x);
        long[] want = state.known();
        asked++;
        if (!Arrays.equals(got, want)) {
            int i = 0;
            while (i < want.length && got[i] == want[i]) {
                i++;
            }
            fail(what + " on " + state + " was refused, but then answer " + i + " was " + got[i] + ", not " + want[i]);
        }
    }

    /** A refusal in each of the states. */
    void refusedAlways(String what, Ask ask, long refusal) {
        for (States state : States.values()) {
            refused(what, state, ask, refusal);
        }
    }

    /** Tells what was wrong and ends the program; words that no test has named are wrong, too. */
    void close() {
        for (int i = 0; i < text.length(); i++) {
            boolean heading = text.startsWith("## ", i) && (i == 0 || text.charAt(i - 1) == '\n');
            if (heading) {
                i = text.indexOf('\n', i);
            } else if (Character.isLetterOrDigit(text.charAt(i)) && !held[i]) {
                int end = text.indexOf('\n', i);
                sentence = text.substring(i, Math.min(end, i + 60));
                fail("no test names these words");
                i = end;
            }
        }
        System.out.println(asked + " answers asked, " + wrong + " wrong");
        if (wrong != 0) {
            System.exit(1);
        }
    }
}
