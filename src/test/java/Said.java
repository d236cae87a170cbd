import java.nio.file.Files;
import java.nio.file.Path;
import java.util.ArrayList;
import java.util.Arrays;
import java.util.List;

/**
 * One sentence of the document, and what is due by it: its words are looked up in DOC.md, so that
 * whoever reads a failed test finds the sentence again, and a sentence without a test is found, too.
 */
final class Said {
    private static final int PROMISES = 28;
    private static final String DOCUMENT = document();
    private static final boolean[] QUOTED = new boolean[DOCUMENT.length()];
    private static final boolean[] TESTED = new boolean[PROMISES + 1];

    private final String name;

    private Said(String name) {
        this.name = name;
    }

    private static String document() {
        try {
            return Files.readString(Path.of("../shared/DOC.md")).replaceAll("\\s+", " ");
        } catch (java.io.IOException e) {
            System.out.println("../shared/DOC.md can't be read, so no words are looked up: " + e);
            return "";
        }
    }

    /** Words of the document that a promise is tested by: its own, if they stand there, else those of the terms. */
    static Said by(int promise, String words) {
        if (!DOCUMENT.isEmpty()) lookUp(promise, words);
        TESTED[promise] = true;
        return new Said("promise " + promise + " '" + words + "': ");
    }

    private static void lookUp(int promise, String words) {
        int own = DOCUMENT.indexOf("## Promise " + promise + ":");
        int next = DOCUMENT.indexOf("## ", own + 1);
        int at = DOCUMENT.indexOf(words, own);
        if (at < 0 || at > next) at = DOCUMENT.indexOf(words);
        Checks.due("promise " + promise + ": the document says '" + words + "'", at < 0 ? 0 : 1, 1);
        if (at >= 0) Arrays.fill(QUOTED, at, at + words.length(), true);
    }

    void due(String what, long got, long want) {
        Checks.due(name + what, got, want);
    }

    /** Each promise, and each sentence from the first line to what is not promised, is to have been tested by its words. */
    static void checkThatAllIsTested() {
        for (int p = 1; p <= PROMISES; p++) Checks.due("promise " + p + " is tested by its sentences", TESTED[p] ? 1 : 0, 1);
        if (DOCUMENT.isEmpty()) return;
        for (String words : untested()) Checks.due("not tested: '" + words + "'", 1, 0);
    }

    private static List<String> untested() {
        List<String> all = new ArrayList<>();
        StringBuilder words = new StringBuilder();
        int end = DOCUMENT.indexOf("## Not promised");
        for (int i = 0; i < end; i++) {
            if (!QUOTED[i]) words.append(DOCUMENT.charAt(i));
            if (!QUOTED[i] && i + 1 < end) continue;
            String rest = withoutHeadings(words.toString());
            if (rest.matches(".*[A-Za-z0-9].*")) all.add(rest.trim());
            words.setLength(0);
        }
        return all;
    }

    private static String withoutHeadings(String words) {
        return words.replaceAll("# OthersMan ## What it is|## The public face|## Terms|## Promise \\d+: \\w+( new object)?", "")
            .replaceAll("```(text|java)?|======== \\d", "");
    }
}
