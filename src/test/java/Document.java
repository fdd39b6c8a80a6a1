import java.io.IOException;
import java.nio.file.Files;
import java.nio.file.Path;
import java.util.LinkedHashMap;
import java.util.Map;
import java.util.regex.Matcher;
import java.util.regex.Pattern;

/** The document by its heads, and which of its words that name a boundary stand in the sentence of some test. */
final class Document {
    private static final Pattern BOUNDARY = Pattern.compile(
        "at most|at least|above|out of its range|more than|[Ff]ewer|fewest|no such|there is none|there was none|at first"
            + "|[Tt]runcated|[Tt]hrows?\\b|Exception`? if|negative|\\b\\d+ to \\d+\\b|to the quantity|NONE|only one|first statement"
            + "|[Ee]mpty|or more|\\bnever\\b|no error|too early|without tokens|latest 10|512|fifth|seventh|always|are no |no shares"
            + "|not one|no tokens|added before|behind the last|no due day|of equal ones|of several|that are equal|with the same"
            + "|not used again|becomes 0|is not \\d|before the present day|in every case|without a holding|even if"
            + "|the greatest|the least|the lowest|as many|exactly|not undoable|all others stay|as few as possible|changes nothing");

    private final Map<String, String> texts = new LinkedHashMap<>();
    private final Map<String, boolean[]> tested = new LinkedHashMap<>();

    Document() throws IOException {
        String head = "";
        for (String line : Files.readString(Path.of("../shared/DOC.md")).split("\n")) {
            if (line.startsWith("## ")) {
                head = line.substring(3).replaceAll(":.*", "");
            } else if (head.matches("Description|Section.*") && line.matches("\\d\\. .*")) {
                head = "Section " + line.charAt(0);
            } else if (line.equals("The constants:")) {
                head = "Constants";
            }
            boolean isSignature = line.startsWith("`") || line.startsWith("----") || line.startsWith("#");
            if (!isSignature && !head.matches("The public face|Not promised|")) {
                texts.merge(head, line + "\n", String::concat);
            }
        }
        texts.forEach((name, text) -> tested.put(name, new boolean[text.length()]));
    }

    /** Notes that a test is for these words; false if they do not stand under the head. */
    boolean mark(String head, String words) {
        String text = texts.getOrDefault(head, "");
        boolean found = false;
        for (int at = text.indexOf(words); at >= 0 && !words.isEmpty(); at = text.indexOf(words, at + 1)) {
            java.util.Arrays.fill(tested.get(head), at, at + words.length(), true);
            found = true;
        }
        return found;
    }

    /** Tells each boundary that no test's sentence holds, and answers how many there are. */
    int tellUntested() {
        int untested = 0;
        for (String head : texts.keySet()) {
            Matcher m = BOUNDARY.matcher(texts.get(head));
            while (m.find()) {
                if (!tested.get(head)[m.start()] || !tested.get(head)[m.end() - 1]) {
                    untested++;
                    System.out.println(head + ": no test is for '" + m.group() + "' in: " + lineAt(texts.get(head), m.start()));
                }
            }
        }
        return untested;
    }

    int boundaries() {
        return texts.values().stream().mapToInt(text -> (int) BOUNDARY.matcher(text).results().count()).sum();
    }

    private static String lineAt(String text, int at) {
        return text.substring(text.lastIndexOf('\n', at) + 1, text.indexOf('\n', at));
    }
}
