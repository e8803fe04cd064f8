import java.io.IOException;
import java.nio.file.Files;
import java.nio.file.Path;

/** Counts the answers that are not as due and tells them. */
final class Check {
    private static final String DOCUMENT = "../shared/DOC.md";

    private static int wrong = 0;
    private static int asked = 0;
    private static int sentences = 0;
    /** The text of the document; null as long as it is not read, empty if it isn't there. */
    private static String document = null;
    private static String sentence = "";

    private Check() {
    }

    static void due(String what, long got, long want) {
        asked++;
        if (got != want) {
            wrong++;
            System.out.println(what + " answered " + got + ", due is " + want + sentence);
        }
    }

    static void holds(String what, boolean holds) {
        due(what, holds ? 1 : 0, 1);
    }

    /** What follows tests this sentence, which must stand in the document just so, where that is at hand. */
    static void says(String quote) {
        if (document == null) {
            document = readDocument();
        }
        sentences++;
        sentence = "";
        holds("the document says \"" + quote + "\"", document.isEmpty() || document.contains(quote));
        sentence = ", by \"" + quote + "\"";
    }

    private static String readDocument() {
        try {
            return Files.readString(Path.of(DOCUMENT));
        } catch (IOException e) {
            System.out.println("the sentences are not looked up: " + e);
            return "";
        }
    }

    /** Types a text into the object, which must have room for it. */
    static void typeText(OvertakingLoads machine, String text) {
        machine.clearText();
        for (int i = 0; i < text.length(); i++) {
            due("type " + text.charAt(i) + " of " + text, machine.type(text.charAt(i)), i + 1);
        }
    }

    static void end(String name) {
        String told = sentences == 0 ? "" : sentences + " sentences, ";
        System.out.println(name + ": " + told + asked + " answers, " + wrong + " not as due");
        if (wrong != 0) {
            System.exit(1);
        }
    }
}
