import java.io.IOException;
import java.nio.file.Files;
import java.nio.file.Path;
import java.util.ArrayList;
import java.util.BitSet;
import java.util.HashMap;
import java.util.List;
import java.util.Map;
import java.util.regex.Matcher;
import java.util.regex.Pattern;

/**
 * Which words of the document a test stands for. Each quote has to stand in the document, at one place alone; and
 * each sentence and each word of its Description and of its promises has to be quoted.
 */
final class Doc {
    private static final Path FILE = Path.of("../shared/DOC.md");
    private static final int DESCRIPTION = 0;
    static final int WHAT = -1;

    // By the number of a promise, and DESCRIPTION: its words with single blanks, and which of their signs are quoted.
    private static final Map<Integer, String> WORDS = new HashMap<>();
    private static final Map<Integer, BitSet> QUOTED = new HashMap<>();
    private static final Map<Integer, List<String>> ROWS = new HashMap<>();
    private static final Map<Integer, String> TITLES = new HashMap<>();
    private static final Map<Integer, String> PARAMETERS = new HashMap<>();
    private static String face = "";

    static {
        load();
    }

    private Doc() {
    }

    private static void load() {
        if (!Files.exists(FILE)) {
            System.out.println("without " + FILE + " what the tests quote is not looked up");
            return;
        }
        String all;
        try {
            all = Files.readString(FILE);
        } catch (IOException e) {
            throw new IllegalStateException(e);
        }
        int description = all.indexOf("## Description");
        int end = all.indexOf("The constructor and the methods follow");
        put(DESCRIPTION, all.substring(all.indexOf('\n', description), end).replaceAll("(?m)^\\d\\. .*$", ""));
        int code = all.indexOf("```java\n") + 8;
        face = all.substring(code, all.indexOf("\n```", code));
        put(WHAT, all.substring(all.indexOf("An object is used for"), all.indexOf("## The public face")));
        Matcher heads = Pattern.compile("(?m)^## Promise (\\d+): (.*)$").matcher(all);
        while (heads.find()) {
            int next = all.indexOf("\n## ", heads.end());
            int number = Integer.parseInt(heads.group(1));
            put(number, all.substring(heads.end(), next));
            TITLES.put(number, heads.group(2));
            Matcher names = Pattern.compile("(?m)^- `(\\w+)`: ").matcher(all).region(heads.end(), next);
            StringBuilder parameters = new StringBuilder();
            while (names.find()) {
                parameters.append(parameters.length() == 0 ? "" : " ").append(names.group(1));
            }
            PARAMETERS.put(number, parameters.toString());
        }
    }

    private static void put(int part, String text) {
        WORDS.put(part, plain(text));
        QUOTED.put(part, new BitSet());
        List<String> rows = new ArrayList<>();
        if (part == DESCRIPTION) {
            rows.addAll(List.of(plain(text).split("(?<=\\.) (?=[A-Z(\\d])|(?<=;) ")));
        } else {
            for (String line : text.split("\n")) {
                if (line.startsWith("Returns ") || line.startsWith("Throws ")) {
                    rows.add(plain(line));
                }
            }
        }
        ROWS.put(part, rows);
    }

    private static String plain(String text) {
        return text.replaceAll("\\s+", " ").trim();
    }

    static boolean isThere() {
        return !WORDS.isEmpty();
    }

    /** The public face, as the document writes it. */
    static String face() {
        return face;
    }

    static String title(int promise) {
        return TITLES.get(promise);
    }

    /** The names of the parameters that a promise tells of, with a blank between. */
    static String parameters(int promise) {
        return PARAMETERS.get(promise);
    }

    /** What follows tests these words of the Description. */
    static void says(String... quotes) {
        promise(DESCRIPTION, quotes);
    }

    /** What follows tests these words of a promise. */
    static void promise(int number, String... quotes) {
        if (!isThere()) {
            return;
        }
        String words = WORDS.get(number);
        for (String quote : quotes) {
            int at = words.indexOf(quote);
            Check.is("the document says it, once: " + quote, at >= 0 && words.indexOf(quote, at + 1) < 0);
            if (at >= 0) {
                QUOTED.get(number).set(at, at + quote.length());
            }
        }
    }

    /** Each sentence and each row was quoted by a test; of the Description and of the promises each word. */
    static void checkThatAllIsQuoted() {
        for (int part : ROWS.keySet()) {
            int at = 0;
            for (String row : ROWS.get(part)) {
                at = WORDS.get(part).indexOf(row, at);
                int quoted = QUOTED.get(part).nextSetBit(at);
                Check.is("a test stands for (" + part + "): " + row, quoted >= 0 && quoted < at + row.length());
                at += row.length();
            }
            if (part != WHAT) {
                Check.same("words that no test stands for (" + part + ")", "", unquoted(part));
            }
        }
    }

    /** The stretches of a part that are not quoted, as far as there is a letter or a digit in them. */
    private static String unquoted(int part) {
        String words = WORDS.get(part);
        BitSet quoted = QUOTED.get(part);
        List<String> stretches = new ArrayList<>();
        for (int at = quoted.nextClearBit(0); at < words.length(); at = quoted.nextClearBit(at)) {
            int end = quoted.nextSetBit(at);
            String stretch = words.substring(at, end < 0 ? words.length() : end);
            if (Pattern.compile("[a-zA-Z0-9]").matcher(stretch).find()) {
                stretches.add(stretch);
            }
            at += stretch.length();
        }
        return String.join(" | ", stretches);
    }
}
