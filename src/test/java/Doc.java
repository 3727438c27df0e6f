import java.io.IOException;
import java.nio.file.Files;
import java.nio.file.Path;
import java.util.ArrayList;
import java.util.BitSet;
import java.util.HashMap;
import java.util.List;
import java.util.Map;
import java.util.regex.Matcher;
import java.util.regex.Pattern;

/**
 * Which words of the document a test stands for. Each quote has to stand in the document, at one place alone; and
 * each sentence of its Description, and each "Returns" and "Throws" row of its promises, has to be quoted.
 */
final class Doc {
    private static final Path FILE = Path.of("../shared/DOC.md");
    private static final int DESCRIPTION = 0;

    // By the number of a promise, and DESCRIPTION: its words with single blanks, and which of their signs are quoted.
    private static final Map<Integer, String> WORDS = new HashMap<>();
    private static final Map<Integer, BitSet> QUOTED = new HashMap<>();
    private static final Map<Integer, List<String>> ROWS = new HashMap<>();

    static {
        load();
    }

    private Doc() {
    }

    private static void load() {
        if (!Files.exists(FILE)) {
            System.out.println("without " + FILE + " what the tests quote is not looked up");
            return;
        }
        String all;
        try {
            all = Files.readString(FILE);
        } catch (IOException e) {
            throw new IllegalStateException(e);
        }
        int description = all.indexOf("## Description");
        int end = all.indexOf("The constructor and the methods follow");
        put(DESCRIPTION, all.substring(all.indexOf('\n', description), end).replaceAll("(?m)^\\d\\. .*$", ""));
        Matcher heads = Pattern.compile("(?m)^## Promise (\\d+): .*$").matcher(all);
        while (heads.find()) {
            int next = all.indexOf("\n## ", heads.end());
            put(Integer.parseInt(heads.group(1)), all.substring(heads.end(), next));
        }
    }

    private static void put(int part, String text) {
        WORDS.put(part, plain(text));
        QUOTED.put(part, new BitSet());
        List<String> rows = new ArrayList<>();
        if (part == DESCRIPTION) {
            rows.addAll(List.of(plain(text).split("(?<=\\.) (?=[A-Z(\\d])|(?<=;) ")));
        } else {
            for (String line : text.split("\n")) {
                if (line.startsWith("Returns ") || line.startsWith("Throws ")) {
                    rows.add(plain(line));
                }
            }
        }
        ROWS.put(part, rows);
    }

    private static String plain(String text) {
        return text.replaceAll("\\s+", " ").trim();
    }

    /** What follows tests these words of the Description. */
    static void says(String... quotes) {
        promise(DESCRIPTION, quotes);
    }

    /** What follows tests these words of a promise. */
    static void promise(int number, String... quotes) {
        if (WORDS.isEmpty()) {
            return;
        }
        String words = WORDS.get(number);
        for (String quote : quotes) {
            int at = words.indexOf(quote);
            Check.is("the document says it, once: " + quote, at >= 0 && words.indexOf(quote, at + 1) < 0);
            if (at >= 0) {
                QUOTED.get(number).set(at, at + quote.length());
            }
        }
    }

    /** Each sentence and each row was quoted by a test. */
    static void checkThatAllIsQuoted() {
        for (int part : ROWS.keySet()) {
            int at = 0;
            for (String row : ROWS.get(part)) {
                at = WORDS.get(part).indexOf(row, at);
                int quoted = QUOTED.get(part).nextSetBit(at);
                Check.is("a test stands for (" + part + "): " + row, quoted >= 0 && quoted < at + row.length());
                at += row.length();
            }
        }
    }
}
