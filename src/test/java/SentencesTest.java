import java.io.IOException;
import java.nio.file.Files;
import java.nio.file.Path;
import java.util.ArrayList;
import java.util.BitSet;
import java.util.List;
import java.util.Map;
import java.util.TreeMap;
import java.util.regex.Matcher;
import java.util.regex.Pattern;
import java.util.stream.Stream;

/** Each word of the document's terms and promises is quoted by a test of edges, and each quotation stands there. */
public final class SentencesTest {
    private static final Due due = new Due();
    private static final Path DOCUMENT = Path.of("../shared/DOC.md");
    private static final Pattern QUOTATION =
            Pattern.compile("edge\\.says\\((-?\\d+),\\s*((?:\"(?:[^\"\\\\]|\\\\.)*\"\\s*\\+?\\s*)+)\\)");
    private static final Pattern LITERAL = Pattern.compile("\"((?:[^\"\\\\]|\\\\.)*)\"");
    private static final Pattern INTERFACE = Pattern.compile("Ahead of the calls (.*?) the interface says: (----[^.]*)\\.");

    /** The document's words: what it is (-1), the terms (0), the promises by their numbers. */
    private final Map<Integer, String> words = new TreeMap<>();
    private final Map<Integer, BitSet> quoted = new TreeMap<>();

    public static void main(String[] args) throws IOException {
        if (!Files.exists(DOCUMENT)) {
            System.out.println("no document is here to be looked at");
            return;
        }
        SentencesTest all = new SentencesTest();
        all.read(Files.readString(DOCUMENT));
        all.lookAtQuotations();
        all.lookForTheRest();
        due.end();
    }

    private static String folded(String text) {
        return text.replaceAll("```\\w*", " ").replaceAll("\\s+", " ").trim();
    }

    private void read(String document) throws IOException {
        for (String part : document.split("\n(?=## )")) {
            String title = part.substring(0, (part + "\n").indexOf('\n'));
            String body = part.substring(title.length());
            if (title.equals("## What it is")) {
                words.put(-1, folded(body));
            } else if (title.equals("## Terms")) {
                interfaceSays(folded(body));
                words.put(0, folded(INTERFACE.matcher(folded(body)).replaceAll(" ")));
            } else if (title.startsWith("## Promise ")) {
                int number = Integer.parseInt(title.replaceAll("## Promise (\\d+):.*", "$1"));
                words.put(number, folded(body.replaceFirst("`[^`]*`:", "")));
            }
        }
        due.is("the document's parts", words.size(), 41);
        for (int part : words.keySet()) {
            quoted.put(part, new BitSet());
        }
    }

    /** The class has these words ahead of these calls, and the calls in this order. */
    private static void interfaceSays(String terms) throws IOException {
        String code = Files.readString(Path.of("src/main/java/PushedIn.java"));
        Matcher m = INTERFACE.matcher(terms);
        int at = 0;
        int calls = 0;
        while (m.find()) {
            at = code.indexOf("// " + m.group(2) + "\n", at);
            due.holds(m.group(2) + " stands in the class", at >= 0);
            int next = code.indexOf("// ----", at + 1);
            for (String call : m.group(1).replace("`", "").split(", ")) {
                at = code.indexOf(" " + call + "(", at);
                due.holds(call + " stands behind " + m.group(2), at >= 0 && (next < 0 || at < next));
                calls++;
            }
        }
        due.is("calls that the interface names", calls, 38);
    }

    private void lookAtQuotations() throws IOException {
        int quotations = 0;
        for (Path file : testsOfEdges()) {
            Matcher m = QUOTATION.matcher(Files.readString(file));
            while (m.find()) {
                quotations++;
                quote(Integer.parseInt(m.group(1)), joined(m.group(2)));
            }
        }
        due.holds("there are quotations: " + quotations, quotations >= 39);
    }

    private static List<Path> testsOfEdges() throws IOException {
        List<Path> files = new ArrayList<>();
        try (Stream<Path> all = Files.list(Path.of("src/test/java"))) {
            all.filter(f -> f.getFileName().toString().endsWith("EdgesTest.java")).sorted().forEach(files::add);
        }
        return files;
    }

    private static String joined(String literals) {
        StringBuilder text = new StringBuilder();
        Matcher m = LITERAL.matcher(literals);
        while (m.find()) {
            text.append(m.group(1).replace("\\\"", "\""));
        }
        return text.toString();
    }

    private void quote(int part, String quotation) {
        String text = words.getOrDefault(part, "");
        int at = text.indexOf(quotation);
        due.holds("stands in part " + part + ": " + quotation, at >= 0);
        due.holds("stands there once: " + quotation, at == text.lastIndexOf(quotation));
        if (at >= 0) {
            quoted.get(part).set(at, at + quotation.length());
        }
    }

    /** What it is (-1) tells what the parts are about; no more than its limit is tested. */
    private void lookForTheRest() {
        for (int part = 0; part <= 39; part++) {
            String text = words.get(part);
            BitSet bits = quoted.get(part);
            int from = bits.nextClearBit(0);
            while (from < text.length()) {
                int next = bits.nextSetBit(from);
                int to = next < 0 ? text.length() : next;
                String rest = text.substring(from, to).trim();
                due.holds("part " + part + " is quoted: " + rest, rest.isEmpty());
                from = bits.nextClearBit(to);
            }
        }
    }
}
