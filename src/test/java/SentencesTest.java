import java.io.IOException;
import java.nio.file.Files;
import java.nio.file.Path;
import java.util.ArrayList;
import java.util.BitSet;
import java.util.List;
import java.util.Map;
import java.util.Set;
import java.util.TreeMap;
import java.util.TreeSet;
import java.util.regex.Matcher;
import java.util.regex.Pattern;

/**
 * Whether the tests of the document's sentences (Edges*Test) cover it: each sentence that they name stands in it; each
 * promise, each refusal of a promise and each range of numbers stands in a sentence that they name; and so does each word
 * of the terms and of the promises.
 */
public final class SentencesTest {
    private static final Path DOCUMENT = Path.of("../shared/DOC.md");
    private static final Pattern NAMED = Pattern.compile("\\bedge\\((\\d+), \"([^\"]*)\"\\)");
    private static final Pattern UNREADABLE = Pattern.compile("\\bc\\.edge\\((?!\\d+, \")");
    private static final Pattern SECTION = Pattern.compile("(?m)^## (.*)$");
    private static final Pattern REFUSAL = Pattern.compile("\\b(BAD|NOT|FULL|NONE|NULL|CAST|INDEX|SIZE|FAULT)\\b");
    private static final Pattern RANGE = Pattern.compile("\\w+ \\.\\. \\w+");
    private static final Pattern WORD = Pattern.compile("[A-Za-z]+");
    /** What says nothing of its own: how a text is set, the headings of the face, and a promise's call. */
    private static final Pattern SET = Pattern.compile("```text|```|Ahead of the calls .*? the interface says: ---- \\d (?:(?!sheets)[a-z, ]+\\.)?"
        + "|^.*?`(?:int \\w+|LetterSchool)\\([^)]*\\)`:");
    private static final Check c = new Check();

    private static final Map<String, String> sections = new TreeMap<>();
    private static final Map<Integer, List<String>> named = new TreeMap<>();

    public static void main(String[] args) throws IOException {
        if (!Files.exists(DOCUMENT)) {
            System.out.println("the document is not at hand");
            return;
        }
        readDocument();
        readTests();
        namedStandInTheDocument();
        refusalsAreNamed();
        rangesAreNamed();
        wordsAreNamed();
        c.end();
    }

    private static String plain(String text) {
        return text.replaceAll("\\s+", " ");
    }

    private static void readDocument() throws IOException {
        String text = Files.readString(DOCUMENT);
        Matcher m = SECTION.matcher(text);
        String title = "";
        int begin = 0;
        while (m.find()) {
            sections.put(title, plain(text.substring(begin, m.start())));
            title = m.group(1);
            begin = m.end();
        }
        sections.put(title, plain(text.substring(begin)));
    }

    private static void readTests() throws IOException {
        List<Path> tests = new ArrayList<>();
        try (var all = Files.list(Path.of("src/test/java"))) {
            all.filter(p -> p.getFileName().toString().startsWith("Edges")).sorted().forEach(tests::add);
        }
        c.about("the tests");
        c.holds("there are tests of the boundary cases", !tests.isEmpty());
        for (Path test : tests) {
            String source = Files.readString(test);
            c.holds("each sentence in " + test + " is written out where it is named", !UNREADABLE.matcher(source).find());
            Matcher m = NAMED.matcher(source);
            while (m.find()) {
                named.computeIfAbsent(Integer.valueOf(m.group(1)), k -> new ArrayList<>()).add(m.group(2));
            }
        }
    }

    private static String promise(int number) {
        return sections.entrySet().stream().filter(s -> s.getKey().startsWith("Promise " + number + ":")).findFirst().orElseThrow().getValue();
    }

    private static void namedStandInTheDocument() {
        String shared = sections.get("What it is") + sections.get("The public face") + sections.get("Terms");
        named.forEach((number, sentences) -> {
            c.about("promise " + number);
            for (String sentence : sentences) {
                c.holds("'" + sentence + "' stands there or in the terms", promise(number).contains(sentence) || shared.contains(sentence));
            }
        });
    }

    private static void refusalsAreNamed() {
        for (int number = 1; number <= 43; number++) {
            c.about("promise " + number);
            List<String> sentences = named.getOrDefault(number, List.of());
            c.holds("a test is about it", !sentences.isEmpty());
            Matcher m = REFUSAL.matcher(promise(number));
            Set<String> refusals = new TreeSet<>();
            while (m.find()) {
                refusals.add(m.group());
            }
            for (String refusal : refusals) {
                c.holds("a test is about its " + refusal, sentences.stream().anyMatch(s -> s.contains(refusal)));
            }
        }
    }

    private static void rangesAreNamed() {
        sections.forEach((title, text) -> {
            c.about(title);
            Matcher m = RANGE.matcher(text);
            while (m.find()) {
                String range = m.group();
                c.holds("a test is about " + range, named.values().stream().flatMap(List::stream).anyMatch(s -> s.contains(range)));
            }
        });
    }

    private static void wordsAreNamed() {
        List<String> all = named.values().stream().flatMap(List::stream).toList();
        wordsAreNamed("the terms", sections.get("Terms"), all);
        for (int number = 1; number <= 43; number++) {
            wordsAreNamed("promise " + number, promise(number), named.getOrDefault(number, List.of()));
        }
    }

    private static void wordsAreNamed(String where, String text, List<String> sentences) {
        c.about(where);
        BitSet seen = new BitSet();
        SET.matcher(text).results().forEach(r -> seen.set(r.start(), r.end()));
        for (String sentence : sentences) {
            for (int at = text.indexOf(sentence); at >= 0; at = text.indexOf(sentence, at + 1)) {
                seen.set(at, at + sentence.length());
            }
        }
        WORD.matcher(text).results().filter(r -> seen.get(r.start(), r.end()).cardinality() < r.end() - r.start())
            .forEach(r -> c.holds("a test names '" + text.substring(r.start(), Math.min(text.length(), r.start() + 60)) + "'", false));
    }
}
