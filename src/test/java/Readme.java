import java.io.IOException;
import java.nio.charset.StandardCharsets;
import java.nio.file.Files;
import java.nio.file.Path;
import java.util.ArrayList;
import java.util.LinkedHashMap;
import java.util.List;
import java.util.Map;
import java.util.regex.Matcher;
import java.util.regex.Pattern;

/** README.md, taken apart: its code, what it says of each call, and its other tables. */
final class Readme {
    /** What a table says of one call. */
    record Call(String form, boolean starred, String does, String refusals) {
    }

    private static final Pattern CALL = Pattern.compile("(?m)^\\| `((\\w+)\\([^)]*\\))`( \\*)? \\| (.*) \\|(.*)\\|$");

    final String text;
    final Map<String, Call> calls = new LinkedHashMap<>();

    Readme(Path path) throws IOException {
        text = Files.readString(path, StandardCharsets.UTF_8);
        Matcher m = CALL.matcher(text);
        while (m.find()) {
            Call call = new Call(m.group(1), m.group(3) != null, m.group(4), m.group(5).trim());
            Due.holds("README tells of " + m.group(2) + " once", calls.put(m.group(2), call) == null);
        }
    }

    /** The blocks of code in their order, each without its fences. */
    List<String> code() {
        List<String> blocks = new ArrayList<>();
        Matcher m = Pattern.compile("(?ms)^```java\n(.*?)^```$").matcher(text);
        while (m.find()) {
            blocks.add(m.group(1));
        }
        return blocks;
    }

    /** All that a pattern finds, its first group by its second (or by "" if it has but one). */
    Map<String, String> found(String pattern) {
        Map<String, String> all = new LinkedHashMap<>();
        Matcher m = Pattern.compile(pattern).matcher(text);
        while (m.find()) {
            all.put(m.group(1), m.groupCount() > 1 ? m.group(2) : "");
        }
        return all;
    }
}
