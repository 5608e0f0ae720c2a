import java.io.IOException;
import java.nio.file.Files;
import java.nio.file.Path;
import java.util.ArrayList;
import java.util.List;

/** Counts answers that are not as due, and makes rows and laws in few words. */
final class Check {
    private final String test;
    private final List<String> sentences = new ArrayList<>();
    private int asked = 0;
    private int wrong = 0;
    private int askedOfSentence = 0;

    Check(String name) {
        test = name;
    }

    void due(String call, long got, long want) {
        asked++;
        askedOfSentence++;
        if (got != want) {
            wrong++;
            System.out.println(test + ": " + call + " answered " + got + ", due is " + want + sentence());
        }
    }

    void holds(String what, boolean so) {
        due(what, so ? 1 : 0, 1);
    }

    /** What is asked from here on is due by this sentence of the document. */
    void says(String sentence) {
        endSentence();
        sentences.add(sentence);
        askedOfSentence = 0;
    }

    private String sentence() {
        return sentences.isEmpty() ? "" : " (\"" + sentences.get(sentences.size() - 1) + "\")";
    }

    private void endSentence() {
        if (!sentences.isEmpty() && askedOfSentence == 0) {
            wrong++;
            System.out.println(test + ": nothing was asked" + sentence());
        }
    }

    /** Ends the test's run, with exit code 1 if anything was wrong. */
    void end() {
        endSentence();
        tellStrangers();
        String by = sentences.isEmpty() ? "" : ", by " + sentences.size() + " sentences";
        System.out.println(test + ": " + asked + " answers" + by + ", " + wrong + " wrong");
        if (wrong > 0 || asked == 0) {
            System.exit(1);
        }
    }

    /** Tells of sentences that the document no longer has; a test does not fail by them. */
    private void tellStrangers() {
        Path document = Path.of(System.getProperty("bees.document", "../shared/DOC.md"));
        if (sentences.isEmpty() || !Files.isReadable(document)) {
            return;
        }
        try {
            String text = Files.readString(document);
            for (String sentence : sentences) {
                if (!text.contains(sentence)) {
                    System.out.println(test + ": the document does not say \"" + sentence + "\"");
                }
            }
        } catch (IOException e) {
            System.out.println(test + ": " + document + " can't be read");
        }
    }

    static void row(BeesSting x, int shelf, int sort, long... values) {
        x.row(shelf, sort, values.length);
        for (int i = 0; i < values.length; i++) {
            x.put(shelf, i, values[i]);
        }
    }

    static void bytes(BeesSting x, int shelf, long... values) {
        row(x, shelf, 0, values);
    }

    static int law(BeesSting x, String text) {
        for (int i = 0; i < text.length(); i++) {
            x.feed(text.charAt(i));
        }
        return x.law();
    }

    static BeesSting parish(int... cells) {
        BeesSting x = new BeesSting();
        for (int cell : cells) {
            x.person(cell);
        }
        return x;
    }
}
