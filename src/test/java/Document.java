import java.io.IOException;
import java.nio.charset.StandardCharsets;
import java.nio.file.Files;
import java.nio.file.Path;
import java.util.Arrays;
import java.util.Map;
import java.util.Set;
import java.util.TreeMap;
import java.util.TreeSet;
import java.util.regex.Matcher;
import java.util.regex.Pattern;

/** The document's own words, by promise (0: the Terms), and which of them some test has quoted. */
final class Document {
    private final Map<Integer, String> texts = new TreeMap<>();
    private final Map<Integer, boolean[]> quoted = new TreeMap<>();
    private final Set<String> face = new TreeSet<>();

    Document(Path path) throws IOException {
        String all = Files.readString(path, StandardCharsets.UTF_8);
        for (String section : all.split("(?m)^## ")) {
            Matcher m = Pattern.compile("\\A(?:Terms|Promise (\\d+): [^\n]*)\n").matcher(section);
            if (m.find()) {
                keep(m.group(1) == null ? 0 : Integer.parseInt(m.group(1)), section.substring(m.end()));
            }
            if (section.startsWith("The public face")) {
                keepFace(section);
            }
        }
    }

    private void keepFace(String section) {
        Matcher m = Pattern.compile("public (int|long) (\\w+)\\((.*?)\\);").matcher(section);
        while (m.find()) {
            face.add(m.group(1) + " " + m.group(2) + "(" + m.group(3).replaceAll("(int|long) \\w+", "$1") + ")");
        }
        m = Pattern.compile("([A-Z]+) = (-\\d+)").matcher(section);
        while (m.find()) {
            face.add(m.group(1) + " = " + m.group(2));
        }
    }

    /** Methods by their types, and constants with what they are. */
    Set<String> face() {
        return face;
    }

    // Fences, the bars ahead of parts, headings of the interface and a promise's signature say nothing to test.
    private void keep(int promise, String section) {
        String text = section.replaceAll("(?m)^```.*$|^=+ \\d |^Ahead of the calls .*$", " ")
            .replaceAll("\\A\\s*`[^`]*`:", " ").replaceAll("\\s+", " ").trim();
        texts.put(promise, text);
        quoted.put(promise, new boolean[text.length()]);
    }

    int promises() {
        return texts.size() - 1;
    }

    boolean quotes(int promise, String words) {
        String text = texts.getOrDefault(promise, "");
        int found = 0;
        for (int at = text.indexOf(words); at >= 0; at = text.indexOf(words, at + 1)) {
            Arrays.fill(quoted.get(promise), at, at + words.length(), true);
            found++;
        }
        return found > 0;
    }

    /** What no test has quoted, with the promise it stands under; "" if all has been. */
    String unquoted() {
        StringBuilder left = new StringBuilder();
        for (int promise : texts.keySet()) {
            String text = texts.get(promise);
            for (int at = 0; at < text.length(); at++) {
                boolean begins = at == 0 || quoted.get(promise)[at - 1];
                if (!quoted.get(promise)[at]) {
                    left.append(begins ? "\n" + promise + ": " : "").append(text.charAt(at));
                }
            }
        }
        return left.toString().replaceAll("\n\\d+: [^\\p{Alnum}]*(?=\n|\\z)", "");
    }
}
