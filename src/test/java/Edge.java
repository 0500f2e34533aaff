import java.io.IOException;
import java.nio.charset.StandardCharsets;
import java.nio.file.Files;
import java.nio.file.Path;
import java.util.List;
import java.util.function.Supplier;

/**
 * The document's sentences, each with the test of what it says at its edges. A sentence is told by its own words,
 * so that what has no test is found: at the end all the document's words must have been told.
 */
final class Edge {
    private static final String DOC = document();
    private static final boolean[] TOLD = new boolean[DOC.length()];

    private Edge() {
    }

    private static String document() {
        try {
            return Files.readString(Path.of("../shared/DOC.md"), StandardCharsets.UTF_8).replaceAll("\\s+", " ");
        } catch (IOException e) {
            throw new IllegalStateException(e);
        }
    }

    /** A test of a sentence that stands under the promise, or in the Terms that it uses. */
    static void of(int promise, String words, Runnable test) {
        Check.about("promise " + promise + " '" + words + "': ");
        tell(promise, words);
        try {
            test.run();
        } catch (Run.Threw e) {
            Check.due(e.getMessage(), 1, 0);
        }
        Check.about("");
    }

    private static void tell(int promise, String words) {
        int from = DOC.indexOf("## Promise " + promise + ":");
        int to = DOC.indexOf("## ", from + 3);
        int place = DOC.indexOf(words, from);
        if (place < 0 || place >= to) {
            place = DOC.indexOf(words);
            to = DOC.indexOf("## Promise 1:");
        }
        int again = DOC.indexOf(words, place + 1);
        Check.due("stands in DOC.md", place >= 0 && place < to ? 1 : 0, 1);
        Check.due("stands there again", again >= 0 && again < to ? 1 : 0, 0);
        for (int i = 0; i < words.length() && place >= 0; i++) {
            TOLD[place + i] = true;
        }
    }

    /** What was told of no sentence: all of the Terms and of the promises' own words must be. */
    static void end() {
        untold(DOC.indexOf("## Terms") + 9, DOC.indexOf("Ahead of the calls `row`"));
        for (int promise = 1; promise <= 41; promise++) {
            int heading = DOC.indexOf("## Promise " + promise + ":");
            int end = DOC.indexOf("## ", heading + 3);
            untold(DOC.indexOf("`: ", heading) + 3, end);
        }
    }

    private static void untold(int from, int to) {
        int begun = from;
        for (int i = from; i <= to; i++) {
            if (i == to || TOLD[i]) {
                String words = DOC.substring(begun, i).replaceAll("```(text)?|=+ \\d", "").trim();
                Check.due("words without a test, '" + words + "'", words.length(), 0);
                begun = i + 1;
            }
        }
    }

    /**
     * Calls that are refused: their answer, status() behind them (the number of a finding; else as it was), and all
     * else as if they had not been.
     */
    static void refused(Supplier<Run> made, long answer, String... calls) {
        for (String call : calls) {
            Run refused = made.get();
            Run spared = made.get();
            refused.due(call, answer);
            long before = spared.call("status()");
            refused.due("status()", answer <= Run.NULL && answer >= Run.STORE ? -1000010 - answer : before);
            alike(call, refused, spared);
        }
    }

    /** Calls that are answered, and change nothing (neither does status() become another). */
    static void seen(Supplier<Run> made, String... calls) {
        for (String call : calls) {
            Run asked = made.get();
            Run spared = made.get();
            asked.does(call);
            asked.due("status()", spared.call("status()"));
            alike(call, asked, spared);
        }
    }

    static void alike(String call, Run one, Run other) {
        List<String> seen = Look.of(one);
        List<String> want = Look.of(other);
        for (int i = 0; i < want.size(); i++) {
            if (i >= seen.size() || !seen.get(i).equals(want.get(i))) {
                Check.due(call + " changes '" + want.get(i) + "'", 1, 0);
                return;
            }
        }
        Check.due(call + " changes how much is seen", seen.size(), want.size());
    }

    /** A number (told as #) of a call: its ends are in, what is next to them and farthest off is BAD. */
    static void within(Supplier<Run> made, String call, int least, int most) {
        for (int in : new int[] {least, most}) {
            String words = call.replace("#", "" + in);
            Check.due(words + " is not refused", made.get().call(words) >= Run.NONE ? 1 : 0, 1);
        }
        refused(made, Run.BAD, call.replace("#", "" + (least - 1)), call.replace("#", "" + (most + 1)),
            call.replace("#", "min"), call.replace("#", "max"));
    }
}
