import java.io.IOException;
import java.nio.file.Files;
import java.nio.file.Path;
import java.util.ArrayList;
import java.util.List;
import java.util.regex.Matcher;
import java.util.regex.Pattern;

/** The sentences of ../shared/DOC.md, and which of them a test stands for. */
final class Sentences {
    /** The parts of the document that say what holds for all calls. */
    static final int ALL_CALLS = 0;

    private static final Path DOCUMENT = Path.of("../shared/DOC.md");
    private static final Pattern PROMISE = Pattern.compile("## Promise (\\d+): .*");
    private static final Pattern FACE = Pattern.compile("`[^`]*\\)[^`]*`: (.*)");
    private static final String[] BARE_PARTS = {"## The public face", "## Not promised"};

    /** A title says what a call is for, and comes first in its promise. */
    private record Sentence(int promise, String words, boolean isTitle) {
    }

    private static final List<Sentence> ALL = read();
    private static final boolean[] NAMED = new boolean[ALL.size()];

    private Sentences() {
    }

    private static List<Sentence> read() {
        List<Sentence> all = new ArrayList<>();
        int promise = ALL_CALLS;
        boolean isBare = false;
        for (String line : linesOfDocument()) {
            Matcher heading = PROMISE.matcher(line);
            if (heading.matches()) {
                promise = Integer.parseInt(heading.group(1));
            }
            if (line.startsWith("## ")) {
                isBare = List.of(BARE_PARTS).contains(line);
            }
            if (!isBare && !line.startsWith("#") && !line.isBlank()) {
                addSentences(all, promise, line.strip());
            }
        }
        return all;
    }

    private static List<String> linesOfDocument() {
        try {
            return Files.readAllLines(DOCUMENT);
        } catch (IOException e) {
            throw new IllegalStateException("there is no " + DOCUMENT, e);
        }
    }

    private static void addSentences(List<Sentence> all, int promise, String line) {
        String words = line.startsWith("- ") ? line.substring(2) : line;
        Matcher face = FACE.matcher(words);
        boolean isTitle = face.matches();
        if (isTitle) {
            words = face.group(1);
        }
        for (String sentence : words.split("(?<=\\.) (?=[A-Z\"`(])")) {
            all.add(new Sentence(promise, sentence, isTitle));
            isTitle = false;
        }
    }

    /** Marks what the document says with these words, for this promise or, if not there, for all calls. */
    static void name(int promise, String words) {
        if (!mark(promise, words) && !mark(ALL_CALLS, words)) {
            Checks.fail("the document does not say \"" + words + "\" for promise " + promise);
        }
    }

    private static boolean mark(int promise, String words) {
        boolean isThere = false;
        for (int i = 0; i < ALL.size(); i++) {
            Sentence sentence = ALL.get(i);
            if (sentence.promise() == promise && sentence.words().contains(words)) {
                NAMED[i] = true;
                isThere = true;
            }
        }
        return isThere;
    }

    /** Each sentence of the document must have been named; titles need not. */
    static void dueAll() {
        for (int i = 0; i < NAMED.length; i++) {
            Sentence sentence = ALL.get(i);
            Checks.due("promise " + sentence.promise() + " has a test for \"" + sentence.words() + "\"",
                NAMED[i] || sentence.isTitle(), true);
        }
    }
}
