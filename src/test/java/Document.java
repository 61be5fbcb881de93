import java.io.IOException;
import java.nio.file.Files;
import java.nio.file.Path;
import java.util.ArrayList;
import java.util.List;
import java.util.regex.Matcher;
import java.util.regex.Pattern;

/** The sections of ../shared/DOC.md, each in one line: 0 is all that stands ahead of promise 1 and tells what words mean. */
final class Document {
    static final int PROMISES = 49;

    private static final Path FILE = Path.of("../shared/DOC.md");

    /** Words that name a case at an edge: a bound, a refusal, what is full, empty, none, alike, or can't be. */
    private static final Pattern EDGES = Pattern.compile("\\d+ \\.\\. \\d+|\\d+ to \\d+|\\bat (most|least|first)\\b|\\bothers\\b"
        + "|\\bNONE\\b|\\bnone\\b|\\bFalse\\b|\\b(the|of) latest\\b|\\bbeyond\\b|\\b[Ww]ithout\\b|\\bfewer\\b|\\babove\\b|\\bbelow\\b"
        + "|\\bempty\\b|\\bNobody\\b|\\bup to\\b|\\bthe \\d+th\\b|\\bsecond time\\b|\\bonce\\b|\\baside\\b|\\bunlike\\b|\\blike ones\\b"
        + "|\\bonly\\b|\\balone\\b|\\bisn't|\\baren't|\\bcan't|\\bcan (be|pass)\\b|\\bcut(s|)\\b|\\bthose that are 0|\\btwice\\b|\\banother\\b"
        + "|\\bif (there|it|these|all|its)\\b|\\bthe longest|\\bof one the least|\\bthe first as\\b|\\bstays\\b|\\bmod \\d+");

    private final String[] sections = new String[PROMISES + 1];

    Document() throws IOException {
        String all = Files.readString(FILE).replace("```text", "").replace("```", "").replaceAll("\\s+", " ");
        sections[0] = all.substring(all.indexOf("## Terms"), all.indexOf("## Promise 1:"));
        for (int promise = 1; promise <= PROMISES; promise++) {
            int from = all.indexOf("## Promise " + promise + ":");
            int to = all.indexOf(promise < PROMISES ? "## Promise " + (promise + 1) + ":" : "## Not promised");
            sections[promise] = all.substring(from, to);
        }
    }

    private static List<Integer> places(String text, String words) {
        List<Integer> places = new ArrayList<>();
        for (int at = text.indexOf(words); at >= 0; at = text.indexOf(words, at + 1)) places.add(at);
        return places;
    }

    void mustSayOnce(int promise, String words) {
        Suite.same("how often promise " + promise + " says '" + words + "'", 1, places(sections[promise], words).size());
    }

    /** Where words stand in the whole document, so that tests can be put in its order. */
    int place(int promise, String words) {
        return promise * 100000 + sections[promise].indexOf(words);
    }

    /** The edges of a section that none of these quotes has in it. */
    List<String> notIn(int promise, List<String> quotes) {
        String text = sections[promise];
        boolean[] quoted = new boolean[text.length()];
        for (String quote : quotes) {
            for (int at : places(text, quote)) {
                for (int i = 0; i < quote.length(); i++) quoted[at + i] = true;
            }
        }
        List<String> left = new ArrayList<>();
        Matcher edge = EDGES.matcher(text);
        while (edge.find()) {
            if (!quoted[edge.start()] || !quoted[edge.end() - 1]) {
                left.add(text.substring(Math.max(0, edge.start() - 30), Math.min(text.length(), edge.end() + 30)));
            }
        }
        return left;
    }
}
