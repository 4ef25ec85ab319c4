import java.io.IOException;
import java.nio.file.Files;
import java.nio.file.Path;
import java.util.LinkedHashMap;
import java.util.Map;
import java.util.regex.Matcher;
import java.util.regex.Pattern;

/**
 * Runs the tests of single sentences, and compares the sentences with ../shared/DOC.md: each must stand where its test
 * says, and of the terms and the promises no word may be left that no test tells. Run at the project's root.
 */
final class EdgesTest {
    private static final Map<String, String> TEXTS = new LinkedHashMap<>();
    private static int faults = 0;

    public static void main(String[] args) throws IOException {
        EdgesOfTerms.all();
        EdgesOfOutcomes.all();
        EdgesOfShelves.all();
        EdgesOfGardens.all();
        EdgesOfShows.all();
        EdgesOfDebts.all();
        EdgesOfTruths.all();
        int checks = 0;
        for (Edge e : Edge.ALL) {
            checks += e.checks;
            faults += e.wrong;
            require(e.checks > 0, e.place + ": \"" + e.sentence + "\" checks nothing");
        }
        compareWithDocument(Files.readString(Path.of("../shared/DOC.md")));
        System.out.println("EdgesTest: " + Edge.ALL.size() + " sentences, " + checks + " checks, " + faults + " not as due");
        System.exit(faults == 0 ? 0 : 1);
    }

    private static void require(boolean holds, String told) {
        if (!holds) {
            faults++;
            System.out.println(told);
        }
    }

    private static void compareWithDocument(String document) {
        cut(document);
        require(TEXTS.keySet().stream().filter(k -> k.startsWith("Promise")).count() == 51, "51 promises");
        Map<String, StringBuilder> untold = new LinkedHashMap<>();
        TEXTS.forEach((place, text) -> untold.put(place, new StringBuilder(text)));
        for (Edge e : Edge.ALL) {
            String text = TEXTS.getOrDefault(e.place, "");
            int at = text.indexOf(e.sentence);
            require(at >= 0, e.place + " has no \"" + e.sentence + "\"");
            for (int i = 0; at >= 0 && i < e.sentence.length(); i++) {
                untold.get(e.place).setCharAt(at + i, ' ');
            }
        }
        untold.forEach((place, rest) ->
            require(!Pattern.compile("[A-Za-z0-9]").matcher(rest).find(), place + " says, and no test does: " + rest.toString().trim()));
    }

    /** The document's text by its places: how it is used, its terms, its refusals, and each promise without its call. */
    private static void cut(String document) {
        String blank = document.replaceAll("```(text|java)?", " ").replaceAll("\\s+", " ");
        keep("What it is", blank, "An object is used ", " ## The public face");
        keep("Terms 1", blank, "==== 1. THE GARDEN", "==== 2.");
        keep("Terms 2", blank, "==== 2. WHAT IS UP", "==== 3.");
        keep("Terms 3", blank, "==== 3. WHAT COMES OF IT", "REFUSALS (");
        keep("REFUSALS", blank, "REFUSALS", "## Promise 1:");
        Matcher m = Pattern.compile("## Promise (\\d+): [^`]*`[^`]*`: (.*?)(?= ## )").matcher(blank);
        while (m.find()) {
            TEXTS.put("Promise " + m.group(1), m.group(2));
        }
    }

    private static void keep(String place, String document, String from, String to) {
        int at = document.indexOf(from);
        int end = document.indexOf(to, Math.max(at, 0));
        require(at >= 0 && end >= 0, "the document has no " + place);
        if (at >= 0 && end >= 0) {
            // The title of a term is no sentence of its own.
            TEXTS.put(place, document.substring(from.startsWith("====") ? at + from.length() : at, end));
        }
    }
}
