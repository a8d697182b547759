import java.io.IOException;
import java.io.UncheckedIOException;
import java.nio.file.Files;
import java.nio.file.Path;
import java.util.ArrayList;
import java.util.BitSet;
import java.util.LinkedHashMap;
import java.util.List;
import java.util.Map;
import java.util.Set;
import java.util.TreeSet;

/**
 * The document by its parts ("description", "section 1" to "section 4", "promise 1" to "promise 59"), so that a title
 * can name a sentence only as it stands there, and a sentence without a test is found.
 */
final class Document {
    private static final Path PLACE = Path.of("..", "shared", "DOC.md");

    private final Map<String, StringBuilder> texts = new LinkedHashMap<>();
    private final Map<String, BitSet> quoted = new LinkedHashMap<>();

    private final boolean isThere = Files.exists(PLACE);

    /** Where the document is not at its place, all words are taken as they are. */
    Document() {
        if (!isThere) {
            System.out.println(PLACE + " is not there: titles are not compared with it");
            return;
        }
        try {
            read(Files.readAllLines(PLACE));
        } catch (IOException e) {
            throw new UncheckedIOException(e);
        }
    }

    private void read(List<String> lines) {
        String part = "";
        for (String line : lines) {
            if (line.startsWith("#")) {
                part = line.replaceAll("^#+ *", "").replaceAll(":.*", "").toLowerCase();
            } else if (line.startsWith("== ")) {
                part = "section " + line.replaceAll("^== (\\d).*", "$1");
            } else {
                texts.computeIfAbsent(part, key -> new StringBuilder()).append(plain(line)).append('\n');
            }
        }
    }

    private static String plain(String text) {
        return text.replace("`", "").trim();
    }

    boolean isThere() {
        return isThere;
    }

    /**
     * Answers whether the words stand in the part, in this sequence where " .. " leaves some out. The name
     * "promise 22 by section 2" is of a part, too: of the section by which that promise is kept.
     */
    boolean quote(String name, String words) {
        String part = name.substring(name.indexOf("section ") < 0 ? 0 : name.indexOf("section "));
        StringBuilder text = texts.getOrDefault(part, new StringBuilder());
        int from = 0;
        for (String piece : words.split(" \\.\\. ")) {
            int place = text.indexOf(piece, from);
            if (place < 0) {
                return !isThere;
            }
            from = place + piece.length();
            quoted.computeIfAbsent(part, key -> new BitSet()).set(place, from);
        }
        return true;
    }

    /** The line of a part that begins so; "" without. */
    String line(String part, String beginning) {
        for (String line : texts.getOrDefault(part, new StringBuilder()).toString().split("\n")) {
            if (line.startsWith(beginning)) {
                return line;
            }
        }
        return "";
    }

    /** What stands between two full stops, semicolons or ends of lines, if no title has a word of it. */
    List<String> unquoted() {
        List<String> rest = new ArrayList<>();
        for (Map.Entry<String, StringBuilder> entry : texts.entrySet()) {
            String part = entry.getKey();
            int from = 0;
            for (String line : entry.getValue().toString().split("\n")) {
                if (isPromised(part, line)) {
                    addUnquoted(part, line, from, rest);
                }
                from += line.length() + 1;
            }
        }
        return rest;
    }

    private void addUnquoted(String part, String line, int place, List<String> rest) {
        BitSet named = quoted.getOrDefault(part, new BitSet());
        int from = 0;
        for (int at = 0; at < line.length(); at++) {
            if (at == line.length() - 1 || line.startsWith(". ", at) || line.startsWith("; ", at)) {
                int next = named.nextSetBit(place + from);
                if (next < 0 || next > place + at) {
                    rest.add(part + ": " + line.substring(from, at + 1).trim());
                }
                from = at + 1;
            }
        }
    }

    /** Of the face, without the names of the arguments, as in "int link(int, int, int) throws ..". */
    Set<String> signatures() {
        Set<String> signatures = new TreeSet<>();
        for (String line : texts.getOrDefault("the public face", new StringBuilder()).toString().split("\n")) {
            if (line.matches("public .*;")) {
                String types = line.replaceAll("(int|boolean|long) \\w+(?=[,)])", "$1");
                signatures.add(types.replaceAll("^public |;$", ""));
            }
        }
        return signatures;
    }

    /** Names of arguments and headings promise nothing. */
    private static boolean isPromised(String part, String line) {
        boolean isOfPromise = part.startsWith("promise ") && !line.startsWith("- ") && !line.startsWith("----");
        boolean isSignature = line.matches("(\\w+ )?\\w+\\(.*");
        return isOfPromise && !isSignature || part.equals("description") || part.startsWith("section ");
    }
}
