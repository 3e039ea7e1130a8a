import java.io.IOException;
import java.nio.file.Files;
import java.nio.file.Path;
import java.util.Map;
import java.util.Set;
import java.util.TreeSet;
import java.util.regex.Matcher;
import java.util.regex.Pattern;

/**
 * Each sentence of ../shared/DOC.md has answers of its own to be looked at: the Bounds classes name the sentence
 * ahead of them, and here it is seen that none is left out and none is made up. Run where src stands.
 */
public final class SentencesTest {
    private static final Pattern HEADING = Pattern.compile("## Promise (\\d+): .*");
    private static final Pattern SIGNATURE = Pattern.compile("^[A-Za-z].*?\\(.*?\\)( throws [A-Za-z, ]+)?: ");
    private static final Pattern SENTENCE_END = Pattern.compile("(?<=\\.)\\s+|(?<=\\.\\))\\s+");
    private static final Pattern NO_PROMISE = Pattern.compile("[A-Z][a-z]+\\.|A correlator of .*|Ahead of the calls .*");

    public static void main(String[] args) throws IOException {
        Check check = new Check();
        new BoundsOfTerms(check).all();
        new BoundsOfNeeds(check).all();
        new BoundsOfAlarms(check).all();
        new BoundsOfEvents(check).all();
        new BoundsOfTickets(check).all();
        new BoundsOfCauses(check).all();
        check.underNone();
        Map<String, Integer> tested = check.answersUnder();
        Set<String> untested = sentences();
        Set<String> madeUp = new TreeSet<>(tested.keySet());
        madeUp.removeAll(untested);
        untested.removeIf(sentence -> tested.getOrDefault(sentence, 0) > 0);
        check.due("sentences without a test", untested.toString(), "[]");
        check.due("sentences that the document does not have", madeUp.toString(), "[]");
        check.end("SentencesTest");
    }

    private static Set<String> sentences() throws IOException {
        Set<String> found = new TreeSet<>();
        String promise = "Promise 0: ";
        boolean isPromised = true;
        for (String line : Files.readAllLines(Path.of("../shared/DOC.md"))) {
            Matcher heading = HEADING.matcher(line);
            if (heading.matches()) {
                promise = "Promise " + heading.group(1) + ": ";
            }
            // FaceTest looks at the face between the fences, and at what stands ahead of which calls.
            boolean isEnd = line.equals("```") && !isPromised || line.startsWith("## Terms");
            isPromised = isEnd || isPromised && !line.startsWith("```") && !line.startsWith("## Not promised");
            if (isPromised && !line.startsWith("#") && !line.isEmpty()) {
                addSentences(found, promise, line);
            }
        }
        return found;
    }

    private static void addSentences(Set<String> found, String promise, String line) {
        String text = line.replace("`", "").replaceFirst("^- ", "");
        if (line.startsWith("`") && !promise.equals("Promise 0: ")) {
            text = SIGNATURE.matcher(text).replaceFirst("");
        }
        for (String sentence : SENTENCE_END.split(text)) {
            if (!NO_PROMISE.matcher(sentence).matches() && !sentence.isEmpty()) {
                found.add(promise + bare(sentence));
            }
        }
    }

    /** Without the full stop, and without the brackets round it all. */
    private static String bare(String sentence) {
        String inner = sentence.startsWith("(") && sentence.endsWith(".)")
            ? sentence.substring(1, sentence.length() - 1) : sentence;
        return inner.endsWith(".") ? inner.substring(0, inner.length() - 1) : inner;
    }
}
