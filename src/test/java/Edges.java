import java.io.IOException;
import java.nio.file.Files;
import java.nio.file.Path;
import java.util.ArrayList;
import java.util.LinkedHashMap;
import java.util.List;
import java.util.Map;

/**
 * Tests of the edges: each is named by the part of the document (Terms 1 to 4, Promise 1 to 27) and
 * by the very words of the sentence there, and fails, too, if the document has other words there.
 */
final class Edges {
    static final int BAD = RemorseWall.BAD, NO = RemorseWall.NO, FULL = RemorseWall.FULL, NONE = RemorseWall.NONE;

    /** Numbers that are far beyond all bounds that are told. */
    static final int[] FAR = {Integer.MIN_VALUE, Integer.MIN_VALUE + 1, -100, 100000, Integer.MAX_VALUE - 1,
        Integer.MAX_VALUE};

    private static final Path DOC = Path.of("../shared/DOC.md");

    interface Maker {
        RemorseWall make();
    }

    interface Call {
        int on(RemorseWall x);
    }

    private final Due due;
    private final Map<String, String> parts;
    private final Map<String, List<String>> quoted = new LinkedHashMap<>();
    private String now = "";

    Edges(String test) {
        due = new Due(test);
        parts = readParts();
    }

    /** From here on the answers belong to this sentence. */
    void sentence(String part, String words) {
        now = part + " '" + words + "': ";
        if (hasDocument()) {
            String text = parts.get(part);
            due.holds(now + "these words stand there", text != null && text.contains(words));
        }
        quoted.computeIfAbsent(part, k -> new ArrayList<>()).add(words);
    }

    void due(String call, long got, long want) {
        due.due(now + call, got, want);
    }

    void holds(String what, boolean is) {
        due.holds(now + what, is);
    }

    void same(String what, RemorseWall x, RemorseWall y) {
        String difference = Alike.difference(x, y);
        due.holds(now + what + ": " + difference, difference.isEmpty());
    }

    /** The call answers as due, and leaves all as it was. */
    void leaves(String told, Maker maker, Call call, int want) {
        RemorseWall x = maker.make();
        due(told, call.on(x), want);
        same("behind " + told, x, maker.make());
    }

    void end() {
        due.holds("there are sentences", sentences() > 0);
        System.out.println(sentences() + " sentences");
        due.end();
    }

    int sentences() {
        return quoted.values().stream().mapToInt(List::size).sum();
    }

    /** The letters and figures of a part that no sentence quoted, the rest as blanks. */
    String notQuoted(String part) {
        StringBuilder rest = new StringBuilder(parts.get(part));
        for (String words : quoted.getOrDefault(part, List.of())) {
            int from = parts.get(part).indexOf(words);
            for (; from >= 0; from = parts.get(part).indexOf(words, from + 1)) {
                for (int i = from; i < from + words.length(); i++) {
                    rest.setCharAt(i, ' ');
                }
            }
        }
        return rest.toString().replaceAll("[^A-Za-z0-9]+", " ").trim();
    }

    Iterable<String> partsOfDocument() {
        return parts.keySet();
    }

    /** Without the document all answers are held to what is due, only the words are not looked up. */
    boolean hasDocument() {
        return !parts.isEmpty();
    }

    private static Map<String, String> readParts() {
        Map<String, String> parts = new LinkedHashMap<>();
        String doc;
        try {
            doc = Files.readString(DOC);
        } catch (IOException e) {
            System.out.println("no document at " + DOC + ": the sentences are not looked up");
            return parts;
        }
        String terms = between(doc, "## Terms", "Ahead of the calls");
        for (int i = 1; i <= 4; i++) {
            String next = i < 4 ? "======== " + (i + 1) + " " : "BAD: a number is none";
            parts.put("Terms " + i, between(terms, "======== " + i + " ", next));
        }
        parts.put("Terms", between(terms + "## end", "\nBAD: a number", "## end"));
        for (int i = 1; i <= 27; i++) {
            String next = i < 27 ? "## Promise " + (i + 1) + ":" : "## Not promised";
            String promise = between(doc, "## Promise " + i + ":", next);
            parts.put("Promise " + i, promise.substring(promise.indexOf("`: ") + 3));
        }
        parts.replaceAll((part, text) -> text.replace("```text", "").replaceAll("\\s+", " "));
        return parts;
    }

    /** From where the first words begin (a head of # or = left out) up to the second ones. */
    private static String between(String text, String from, String to) {
        int start = text.indexOf(from);
        int end = text.indexOf(to, start + from.length());
        if (start < 0 || end < 0) {
            throw new IllegalStateException("the document has other parts: no " + from + " up to " + to);
        }
        boolean head = from.startsWith("#") || from.startsWith("=");
        return text.substring(head ? start + from.length() : start, end);
    }
}
