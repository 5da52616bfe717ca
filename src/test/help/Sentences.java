import java.io.IOException;
import java.nio.charset.StandardCharsets;
import java.nio.file.Files;
import java.nio.file.Path;
import java.util.ArrayList;
import java.util.LinkedHashSet;
import java.util.List;
import java.util.Set;
import java.util.function.IntToLongFunction;

/**
 * Tests by sentences of the document: says() tells whose test begins, and end() holds what was told against the
 * document, so that no sentence of a section is left without a test, and no test tells a sentence that isn't there.
 */
abstract class Sentences extends Asks {
    private static final Path DOCUMENT = Path.of("../shared/DOC.md");

    private static final List<String> sections = new ArrayList<>();
    private static final List<String> sentences = new ArrayList<>();
    private static String now = "";
    private static int askedAhead = 0;

    /** From here on answers are asked by this sentence of a section (the beginning of its heading). */
    static void says(String section, String words) {
        closeSentence();
        sections.add(section);
        sentences.add(words);
        now = words;
    }

    static void due(String call, long got, long want) {
        Asks.due("\"" + now + "\": " + call, got, want);
    }

    /** The last values that are as told, and the first on either side that are not; others are far outside. */
    static void within(String call, IntToLongFunction ask, int low, int high, int refusal) {
        int[] outside = {low - 1, high + 1, Integer.MIN_VALUE, Integer.MAX_VALUE, low - 256, high + 65536};
        for (int v : outside) {
            due(call + " of " + v, ask.applyAsLong(v), refusal);
        }
        for (int v : new int[] {low, high}) {
            asked++;
            must(ask.applyAsLong(v) >= -1, "\"" + now + "\": " + call + " of " + v + " is as told");
        }
    }

    private static void closeSentence() {
        must(sentences.isEmpty() || asked > askedAhead, "an answer is asked by \"" + now + "\"");
        askedAhead = asked;
    }

    /** The last line of a test; each sentence of these sections has to have a test by it. */
    static void end(String... whole) throws IOException {
        closeSentence();
        must(Files.exists(DOCUMENT), "run from the project's folder, with " + DOCUMENT);
        if (Files.exists(DOCUMENT)) {
            String document = Files.readString(DOCUMENT, StandardCharsets.UTF_8);
            Set<String> all = new LinkedHashSet<>(sections);
            all.addAll(List.of(whole));
            for (String section : all) {
                String left = untold(section, sectionOf(document, section));
                boolean nothing = left.chars().noneMatch(Character::isLetterOrDigit);
                must(nothing || !List.of(whole).contains(section), "no test by these words of " + section + ": " + left);
            }
        }
        end();
    }

    /** What is left of a section's text without the sentences that were told. */
    private static String untold(String section, String text) {
        boolean[] told = new boolean[text.length()];
        for (int i = 0; i < sentences.size(); i++) {
            if (sections.get(i).equals(section)) {
                must(tell(text, sentences.get(i), told), section + " says \"" + sentences.get(i) + "\"");
            }
        }
        StringBuilder left = new StringBuilder();
        for (int i = 0; i < text.length(); i++) {
            left.append(told[i] ? ' ' : text.charAt(i));
        }
        return left.toString().replaceAll("\\s+", " ").trim();
    }

    /** Marks the first place at which the words stand and which isn't marked yet. */
    private static boolean tell(String text, String words, boolean[] told) {
        int at = text.indexOf(words);
        while (at >= 0 && told[at]) {
            at = text.indexOf(words, at + 1);
        }
        for (int i = 0; at >= 0 && i < words.length(); i++) {
            told[at + i] = true;
        }
        return at >= 0;
    }

    /** A section without its code, what only tells which calls come, and line breaks. */
    private static String sectionOf(String document, String section) {
        int heading = document.indexOf("\n## " + section);
        int from = heading < 0 ? -1 : document.indexOf('\n', heading + 1);
        if (from < 0) {
            return "";
        }
        int till = document.indexOf("\n## ", from);
        String text = document.substring(from, till < 0 ? document.length() : till);
        text = text.replaceAll("(?m)^```.*$", "");
        text = text.replaceAll("(?m)^Ahead of the calls .* says: ---- [a-z, ]+\\.$", "");
        text = text.replaceAll("(?m)^Ahead of the calls .* says: ---- ", "");
        return text.replaceAll("`[^`]*`", "").replaceAll("\\s+", " ");
    }
}
