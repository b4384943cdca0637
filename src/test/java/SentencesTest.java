import java.io.IOException;
import java.nio.file.DirectoryStream;
import java.nio.file.Files;
import java.nio.file.Path;
import java.util.ArrayList;
import java.util.Arrays;
import java.util.List;
import java.util.Map;
import java.util.TreeMap;
import java.util.regex.Matcher;
import java.util.regex.Pattern;

/**
 * That every sentence of the document has a test of its own: what the tests name by Due.terms and
 * Due.promise stands in the document, and nothing is left of it then but what names no boundary.
 */
public final class SentencesTest {
    private static final Path DOCUMENT = Path.of("../shared/DOC.md");
    private static final Path TESTS = Path.of("src/test/java");
    private static final Pattern NAMED =
        Pattern.compile("Due\\.(terms|promise)\\((?:(\\d+), )?((?:\\s*\\+?\\s*\"(?:[^\"\\\\]|\\\\.)*\")+)\\)");
    private static final Pattern LITERAL = Pattern.compile("\"((?:[^\"\\\\]|\\\\.)*)\"");
    private static final int TERMS = 0;

    /** Words that name no boundary: what a thing is for, and headings within the text. */
    private static final String[] WITHOUT_EDGE = {
        "Storage among peers: files are divided into data fragments and parity fragments, fragments are placed on "
            + "peers with space and trust, peers come and go and can lose or spoil fragments, audits by challenges "
            + "find this, repairs make fragments anew and are paid by debts between peers; questions about which "
            + "losses a file bears, and a plan in which order peers may leave.",
        "The constants:",
        "Lets a peer join.",
        "Sets whether a peer is online.",
        "Spoils a fragment.",
        "Audits a peer.",
        "Repairs a file.",
        "Returns a number.",
        "Ahead of the calls `join`, `leave`, `crash`, `setOnline`, `pay`, `peerInfo`, `balance` "
            + "the interface says: ---- peers.",
        "Ahead of the calls `word`, `store`, `delete`, `fileInfo`, `fragment`, `read`, `decode` "
            + "the interface says: ---- files.",
        "Ahead of the calls `spoil`, `audit`, `passingSeeds`, `repair`, `repairAll`, `undo` "
            + "the interface says: ---- audits and repairs."};

    public static void main(String[] args) throws IOException {
        if (!Files.isReadable(DOCUMENT)) {
            System.out.println("there is no " + DOCUMENT + " to compare with");
            return;
        }
        Map<Integer, String> sections = sections(Files.readString(DOCUMENT));
        Due.is("sections of the document", 26, sections.size());
        Map<Integer, List<String>> named = named();
        named.forEach((section, all) -> all.forEach(words -> {
            String name = section == TERMS ? "Terms" : "Promise " + section;
            Due.is(name + " says \"" + words + "\"", 1, sections.getOrDefault(section, "").contains(words) ? 1 : 0);
        }));
        sections.forEach((section, text) -> {
            String left = without(text, named.getOrDefault(section, List.of()));
            Due.same("section " + section + ", what no test names", "", left);
        });
        Due.end();
    }

    /** By the promise's number, 0 for all that stands before the promises; without headings and code. */
    private static Map<Integer, String> sections(String document) {
        Map<Integer, String> sections = new TreeMap<>();
        String body = document.replaceAll("(?s)```.*?```", "").replaceAll("(?s)## Not promised.*", "");
        int section = TERMS;
        StringBuilder text = new StringBuilder();
        for (String line : body.split("\n")) {
            Matcher promise = Pattern.compile("## Promise (\\d+): .*").matcher(line);
            if (promise.matches()) {
                sections.put(section, text.toString());
                section = Integer.parseInt(promise.group(1));
                text.setLength(0);
            } else if (!line.startsWith("#")) {
                text.append(line).append('\n');
            }
        }
        sections.put(section, text.toString());
        return sections;
    }

    private static Map<Integer, List<String>> named() throws IOException {
        Map<Integer, List<String>> named = new TreeMap<>();
        try (DirectoryStream<Path> tests = Files.newDirectoryStream(TESTS, "*Test.java")) {
            for (Path test : tests) {
                Matcher matcher = NAMED.matcher(Files.readString(test));
                while (matcher.find()) {
                    int section = matcher.group(2) == null ? TERMS : Integer.parseInt(matcher.group(2));
                    named.computeIfAbsent(section, s -> new ArrayList<>()).add(joined(matcher.group(3)));
                }
            }
        }
        return named;
    }

    private static String joined(String literals) {
        StringBuilder words = new StringBuilder();
        Matcher matcher = LITERAL.matcher(literals);
        while (matcher.find()) {
            words.append(matcher.group(1).replace("\\\"", "\""));
        }
        return words.toString();
    }

    /** What is left without these words, the head of the call, and signs between sentences. */
    private static String without(String text, List<String> named) {
        boolean[] gone = new boolean[text.length()];
        List<String> all = new ArrayList<>(named);
        all.addAll(List.of(WITHOUT_EDGE));
        for (String words : all) {
            for (int at = text.indexOf(words); at >= 0; at = text.indexOf(words, at + 1)) {
                Arrays.fill(gone, at, at + words.length(), true);
            }
        }
        StringBuilder left = new StringBuilder();
        for (int at = 0; at < text.length(); at++) {
            left.append(gone[at] ? "" : text.charAt(at));
        }
        return left.toString().replaceAll("(?m)^`[^`]*\\([^`]*\\)`:", "").replaceAll("(?m)^- ?", "").strip()
            .replaceAll("\\s*\n\\s*", "\n  ");
    }
}
