import java.nio.file.Files;
import java.nio.file.Path;
import java.util.ArrayList;
import java.util.LinkedHashMap;
import java.util.List;
import java.util.Map;
import java.util.regex.Matcher;
import java.util.regex.Pattern;

/** Which words of the document were looked at; behind all tests it is asked if one of its sentences was passed over. */
final class Sentences {
    private static final Pattern HEADING = Pattern.compile("#+ (Promise \\d+|[A-Z][^:]*).*");
    /** A sentence ends with its full stop, or with a ";" that is not itself spoken of. */
    private static final Pattern END = Pattern.compile(";(?!\")\\s*|(?<=[.)])\\s+(?=[A-Z(])");
    private static final String NOTHING_PROMISED = "Not promised";

    /** The words of the document that a test is for, and how many checks there had been ahead of it. */
    private record Words(String heading, String words, int checksBefore) {
    }

    private static final List<Words> MET = new ArrayList<>();

    private Sentences() {
    }

    static void begin(String heading, String words) {
        end();
        MET.add(new Words(heading, words, Check.checks()));
        Check.part(heading + ", \"" + words + "\"");
    }

    /** A sentence without a check behind it would be no test. */
    static void end() {
        if (!MET.isEmpty()) {
            Words last = MET.get(MET.size() - 1);
            Check.same("checks of it", Check.checks() > last.checksBefore() ? 1 : 0, 1);
        }
    }

    /** Each sentence of the document has words that a test is for, and each test is for words of the document. */
    static void compareWith(Path document) throws java.io.IOException {
        end();
        Check.part("the sentences of the document");
        if (!Files.exists(document)) {
            System.out.println("there is no " + document + ": its sentences were not compared with the tests");
            return;
        }
        Map<String, List<String>> lines = linesByHeading(document);
        Map<String, List<boolean[]>> met = new LinkedHashMap<>();
        lines.forEach((heading, texts) -> met.put(heading, texts.stream().map(text -> new boolean[text.length()]).toList()));
        for (Words words : MET) {
            boolean found = mark(lines.getOrDefault(words.heading(), List.of()), met.get(words.heading()), words.words());
            Check.same(words.heading() + ": \"" + words.words() + "\" stands in the document", found ? 1 : 0, 1);
        }
        lines.forEach((heading, texts) -> {
            for (int line = 0; line < texts.size() && !NOTHING_PROMISED.equals(heading); line++) {
                passedOver(heading, texts.get(line), met.get(heading).get(line));
            }
        });
    }

    private static Map<String, List<String>> linesByHeading(Path document) throws java.io.IOException {
        Map<String, List<String>> lines = new LinkedHashMap<>();
        String heading = "";
        for (String line : Files.readAllLines(document)) {
            Matcher matcher = HEADING.matcher(line);
            if (matcher.matches()) {
                heading = matcher.group(1);
            } else if (isText(line)) {
                lines.computeIfAbsent(heading, name -> new ArrayList<>()).add(line);
            }
        }
        return lines;
    }

    /** The signs round a piece of Java, and its last bracket, say nothing. */
    private static boolean isText(String line) {
        return !line.startsWith("```") && line.chars().anyMatch(Character::isLetter);
    }

    private static boolean mark(List<String> lines, List<boolean[]> met, String words) {
        for (int line = 0; line < lines.size(); line++) {
            int begin = lines.get(line).indexOf(words);
            if (begin >= 0) {
                java.util.Arrays.fill(met.get(line), begin, begin + words.length(), true);
                return true;
            }
        }
        return false;
    }

    private static void passedOver(String heading, String line, boolean[] met) {
        Matcher end = END.matcher(line);
        int begin = 0;
        while (begin < line.length()) {
            int next = end.find() ? end.end() : line.length();
            boolean any = false;
            for (int place = begin; place < next; place++) {
                any |= met[place];
            }
            Check.same(heading + ": a test of \"" + line.substring(begin, next) + "\"", any ? 1 : 0, 1);
            begin = next;
        }
    }
}
