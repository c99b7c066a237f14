import java.io.IOException;
import java.nio.charset.StandardCharsets;
import java.nio.file.Files;
import java.nio.file.Path;
import java.util.LinkedHashMap;
import java.util.List;
import java.util.Map;
import java.util.regex.Matcher;
import java.util.regex.Pattern;

/**
 * Each sentence of the document that names a boundary case has a test of its own, in the classes
 * whose names end in Edges. Here they are run, and looked at: that the words stand in the document
 * where the test says, and that no clause of a promise or a term is without a test.
 */
public final class EdgesTest {
    private static final Path DOCUMENT = Path.of("../shared/DOC.md");

    /** Terms and promises by their numbers, each with its text, blanks made one. */
    private static Map<String, String> sections() throws IOException {
        String text = Files.readString(DOCUMENT, StandardCharsets.UTF_8);
        Map<String, String> out = new LinkedHashMap<>();
        String terms = text.substring(text.indexOf("## Terms"), text.indexOf("## Promise 1:"));
        String[] parts = terms.split("\n(?=[IV]+\\. )");
        for (int i = 1; i < parts.length; i++) {
            int dot = parts[i].indexOf('.');
            out.put(parts[i].substring(0, dot), plain(parts[i].substring(dot + 1)));
        }
        Matcher promise = Pattern.compile("## Promise (\\d+): [^\n]*\n(.*?)(?=\n## )", Pattern.DOTALL).matcher(text);
        while (promise.find()) {
            out.put(promise.group(1), plain(promise.group(2).replaceFirst("`[^`]*`:", "")));
        }
        return out;
    }

    private static String plain(String text) {
        return text.replace("```text", " ").replace("```", " ").replaceAll("\\s+", " ").trim();
    }

    private static void lookAtWords(Map<String, String> sections) {
        Edges.quoted().forEach((where, all) -> {
            String text = sections.getOrDefault(where, "");
            for (String words : all) {
                if (!text.contains(words)) {
                    Edges.complain("at " + where + " there is no \"" + words + "\"");
                }
            }
        });
    }

    /** A clause ends with a ; or a full stop (not one of the two dots of a range). */
    private static void lookForUntested(Map<String, String> sections) {
        sections.forEach((where, text) -> {
            boolean[] tested = new boolean[text.length()];
            for (String words : Edges.quoted().getOrDefault(where, List.of())) {
                int from = text.indexOf(words);
                for (int i = Math.max(from, 0); i < from + words.length(); i++) {
                    tested[i] = true;
                }
            }
            int from = 0;
            Matcher end = Pattern.compile("(?<![. ])[.;](?= )|$").matcher(text);
            while (end.find()) {
                boolean any = false;
                for (int i = from; i < end.start(); i++) {
                    any |= tested[i];
                }
                if (!any && end.start() > from) {
                    Edges.complain("at " + where + " without a test: \"" + text.substring(from, end.start()).trim() + "\"");
                }
                from = Math.min(end.start() + 1, text.length());
            }
        });
    }

    public static void main(String[] args) throws IOException {
        Edges[] all = {new TextEdges(), new FloorEdges(), new RoundsEdges(), new GuessEdges(), new WoodEdges(), new TuneEdges(),
            new NightEdges(), new ChangeEdges(), new SlotEdges()};
        for (Edges edges : all) {
            edges.all();
        }
        if (Files.exists(DOCUMENT)) {
            Map<String, String> sections = sections();
            if (sections.size() != 69) {
                Edges.complain("the document has not 6 terms and 63 promises, but " + sections.keySet());
            }
            lookAtWords(sections);
            lookForUntested(sections);
        }
        int sentences = Edges.quoted().values().stream().mapToInt(List::size).sum();
        int wrong = Edges.wrongSoFar();
        System.out.println(wrong == 0 ? sentences + " sentences hold, by " + Edges.askedSoFar() + " answers" : wrong + " are not as due");
        if (wrong != 0) {
            System.exit(1);
        }
    }
}
