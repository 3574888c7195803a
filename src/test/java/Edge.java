import java.io.IOException;
import java.nio.file.Files;
import java.nio.file.Path;
import java.util.ArrayList;
import java.util.HashMap;
import java.util.List;
import java.util.Map;
import java.util.regex.Matcher;
import java.util.regex.Pattern;

/**
 * The document's sentences, each quoted ahead of the answers that it asks for. A quote must stand in the document so,
 * must have an answer behind it, and no clause of a Term or promise may be left without a quote.
 */
final class Edge {
    /** Nothing is told but that there is a HEATH. */
    static final String HEAD = "heath hours 3 law 0 odds 0;";
    /**
     * All that may be told. Arms at first: 1 3 1 1 0 1 0. WALKERS 0 .. 7 are, from the HOUR in which they come on,
     * at 0 2 4 5 13; 1 13; 2 3 5 6 11; 3 4 5 5 6 11; 4 5 6 11; 5 5 5 6 11; 6 11; 0 3 (in HOURS 15, 16).
     * INN 3 (room 2) turns away WALKERS 3 and 5 in HOUR 5, and 5 in HOUR 6.
     */
    static final String FULL = "heath hours 16 law 0 odds 10;inn room 0;inn room 9;inn room 1;inn room 2;"
        + "post;post;post;post;post;post;post;"
        + "road 0 to 1;road 0 to 2;road 0 to 3;road 0 in 0;road 1 to 2;road 1 in 1;road 1 in 2;road 1 in 3;"
        + "road 2 to 3;road 2 to 4;road 3 to 4;road 3 to 5;road 4 to 5;road 5 to 6;road 5 in 3;road 6 in 1;"
        + "arm 0 3;arm 1 3;arm 2 1;arm 3 1;arm 4 0;arm 5 1;arm 6 0;arm 0 1;"
        + "walker 0 at 0;walker 1 at 1;walker 2 at 2;walker 3 at 3;walker 4 at 4;walker 5 at 5;walker 6 at 6;"
        + "walker 0 at 15;";
    static final int MIN = Integer.MIN_VALUE;
    static final int MAX = Integer.MAX_VALUE;

    private static final Map<String, String> SECTIONS = new HashMap<>();
    private static final Map<String, boolean[]> QUOTED = new HashMap<>();
    private static String label = "";
    private static int answersBehind = 1;

    private Edge() {
    }

    static void promise(int number, String quote) {
        quote("promise " + number, quote);
    }

    static void term(String number, String quote) {
        quote("term " + number, quote);
    }

    private static void quote(String section, String quote) {
        Due.holds("an answer behind: " + label, answersBehind > 0);
        label = section + " \"" + quote + "\"";
        answersBehind = 0;
        String text = SECTIONS.getOrDefault(section, "");
        int from = text.indexOf(quote);
        Due.holds(label + " stands in the document", from >= 0);
        boolean[] quoted = QUOTED.computeIfAbsent(section, s -> new boolean[text.length()]);
        for (int i = Math.max(0, from); i < from + quote.length(); i++) {
            quoted[i] = true;
        }
    }

    static void due(long got, long want) {
        answersBehind++;
        Due.is(label + ", answer " + answersBehind, got, want);
    }

    /** One call answers so for each of the numbers. */
    static void dueOfEach(long want, long... answers) {
        for (long got : answers) {
            due(got, want);
        }
    }

    static ObligingPosts told(String text) {
        return Due.heath(text);
    }

    /** A text without FAULT: as many LINES. */
    static void fine(String text, int lines) {
        ObligingPosts x = new ObligingPosts();
        Due.tape(x, text);
        due(x.heath(), lines);
        due(x.fault(0), 0);
        due(x.fault(1), -1);
        due(x.count(9), lines);
        due(x.count(10), 0);
    }

    static void faulty(String text, int kind, int place) {
        ObligingPosts x = new ObligingPosts();
        Due.tape(x, text);
        due(x.heath(), -4);
        due(x.fault(0), kind);
        due(x.fault(1), place);
        due(x.count(9), 0);
        due(x.count(10), text.length());
    }

    /** The text behind HEAD has a FAULT at a place of its own; ahead of it all is fine. */
    static void faultyBehindHead(String text, int kind, int place) {
        faulty(HEAD + text, kind, HEAD.length() + place);
    }

    static void readDocument() throws IOException {
        String document = Files.readString(Path.of("../shared/DOC.md"));
        Matcher promises = Pattern.compile("(?s)## Promise (\\d+): .*?`: (.*?)\n\n").matcher(document);
        while (promises.find()) {
            SECTIONS.put("promise " + promises.group(1), plain(promises.group(2)));
        }
        String terms = document.substring(document.indexOf("## Terms"), document.indexOf("## Promise 1:"));
        Matcher numbered = Pattern.compile("(?s)\n([IV]+)\\. (.*?)(?=\n[IV]+\\. |$)").matcher(terms);
        while (numbered.find()) {
            SECTIONS.put("term " + numbered.group(1), plain(numbered.group(2)));
        }
        Due.is("promises and Terms of the document", SECTIONS.size(), 76 + 8);
    }

    private static String plain(String text) {
        return text.replace("```text", "").replace("```", "").replaceAll("\\s+", " ").trim();
    }

    /** Each clause of the document must have a quote that reaches into it. */
    static void close() {
        Due.holds("an answer behind: " + label, answersBehind > 0);
        for (Map.Entry<String, String> section : SECTIONS.entrySet()) {
            for (int[] clause : clauses(section.getValue())) {
                String text = section.getValue().substring(clause[0], clause[1]);
                Due.holds(section.getKey() + " is quoted: " + text, isQuoted(section.getKey(), clause));
            }
        }
        Due.close();
    }

    private static boolean isQuoted(String section, int[] clause) {
        boolean[] quoted = QUOTED.get(section);
        boolean found = false;
        for (int i = clause[0]; quoted != null && i < clause[1]; i++) {
            found |= quoted[i];
        }
        return found;
    }

    /** Where clauses begin and end: at . ; : (but for the dots of "0 .. 3"). */
    private static List<int[]> clauses(String text) {
        List<int[]> found = new ArrayList<>();
        Matcher end = Pattern.compile("(?<![. ])[.;:](?= |$)").matcher(text);
        int from = 0;
        while (end.find()) {
            found.add(new int[] {from, end.start()});
            from = end.end();
        }
        if (from < text.length()) {
            found.add(new int[] {from, text.length()});
        }
        return found;
    }
}
