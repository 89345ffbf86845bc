import java.io.IOException;
import java.nio.file.Files;
import java.nio.file.Path;
import java.util.ArrayList;
import java.util.List;

/** What the tests share: the answers that are due, and objects with a text. */
final class Due {
    static final int BAD = -12, STATE = -13, FULL = -14, NONE = -11;

    private static final Path DOCUMENT = Path.of("../shared/DOC.md");

    private static final List<String> sentences = new ArrayList<>();
    private static String sentence = "";
    private static int passed;
    private static int failed;

    private Due() {
    }

    static void is(String call, long got, long due) {
        if (got == due) {
            passed++;
        } else {
            fail(call + " answered " + got + ", due is " + due);
        }
    }

    private static void fail(String what) {
        failed++;
        System.out.println((sentence.isEmpty() ? "" : "[" + sentence + "]: ") + what);
    }

    /** Runs the test of a sentence of the document, which is named where the test fails. */
    static void holds(String ofTheDocument, Runnable test) {
        sentence = ofTheDocument;
        sentences.add(sentence);
        int before = passed + failed;
        try {
            test.run();
        } catch (RuntimeException thrown) {
            fail("a call threw " + thrown);
        }
        if (passed + failed == before) {
            fail("no answer was looked at");
        }
        sentence = "";
    }

    /** Ends the test program with exit code 1 if an answer was not the one that is due. */
    static void close(String test) {
        if (!sentences.isEmpty()) {
            lookForSentences(test);
        }
        System.out.println(test + ": " + passed + " answers are as due, " + failed + " are not");
        System.exit(failed == 0 ? 0 : 1);
    }

    private static void lookForSentences(String test) {
        String document;
        try {
            document = folded(Files.readString(DOCUMENT));
        } catch (IOException absent) {
            System.out.println(test + ": there is no " + DOCUMENT + " to look for the sentences in");
            return;
        }
        for (String words : sentences) {
            is("places of [" + words + "] in the document", document.contains(folded(words)) ? 1 : 0, 1);
        }
    }

    private static String folded(String text) {
        return text.replaceAll("\\s+", " ");
    }

    /** Puts a text in place of the one that there is. */
    static void write(PictureScript x, String text) {
        x.clearText();
        for (int i = 0; i < text.length(); i++) {
            is("type of byte " + i + " of \"" + text + "\"", x.type(text.charAt(i)), i + 1);
        }
    }

    static PictureScript withText(String text) {
        PictureScript x = new PictureScript();
        write(x, text);
        return x;
    }

    static PictureScript played(String text) {
        PictureScript x = withText(text);
        is("fault of \"" + text + "\"", x.fault(), NONE);
        x.read();
        return x;
    }

    static void fault(String text, int due) {
        PictureScript x = withText(text);
        is("fault of \"" + text + "\"", x.fault(), due);
        is("length behind fault of \"" + text + "\"", x.count(6), text.length());
        if (due != NONE) {
            is("read of \"" + text + "\"", x.read(), STATE);
        }
    }

    static void good(String text) {
        fault(text, NONE);
    }

    static void moments(String when, PictureScript x, int kept, int turnedBack) {
        is("kept moments " + when, x.count(1), kept);
        is("turned back moments " + when, x.count(2), turnedBack);
    }

    static void portraits(String when, PictureScript x, int... voicesAndFaces) {
        for (int place = 0; place < 3; place++) {
            is("voice at " + place + " " + when, x.portrait(place, false), voicesAndFaces[2 * place]);
            is("face at " + place + " " + when, x.portrait(place, true), voicesAndFaces[2 * place + 1]);
        }
    }

    static void nobody(String when, PictureScript x) {
        portraits(when, x, NONE, NONE, NONE, NONE, NONE, NONE);
    }

    static void way(PictureScript x, int end, int... options) {
        is("choices to " + end, x.choicesTo(end), options.length);
        for (int i = 0; i < options.length; i++) {
            is("way to " + end + ", choice " + i, x.wayTo(end, i), options[i]);
        }
        is("way to " + end + ", a choice too many", x.wayTo(end, options.length), NONE);
    }

    static void noWay(PictureScript x, int end) {
        is("choices to " + end, x.choicesTo(end), NONE);
        is("way to " + end, x.wayTo(end, 0), NONE);
    }

    /** The numbers of the digest, as all the other calls tell them. */
    static List<Integer> numbersOfDigest(PictureScript x, String text) {
        List<Integer> numbers = new ArrayList<>();
        for (int what = 0; what <= 6; what++) {
            numbers.add(x.count(what));
        }
        for (int what = 0; what <= 5; what++) {
            numbers.add(x.shown(what));
        }
        for (int place = 0; place < 3; place++) {
            numbers.add(x.portrait(place, false));
            numbers.add(x.portrait(place, true));
        }
        for (int node = 0; node < x.count(0); node++) {
            for (int what = 0; what <= 3; what++) {
                numbers.add(x.node(node, what));
            }
            for (int option = 0; x.node(node, 0) == 6 && option < x.node(node, 1); option++) {
                for (int what = 0; what <= 2; what++) {
                    numbers.add(x.option(node, option, what));
                }
                numbers.add(x.usable(node, option));
            }
        }
        numbers.add(x.situations(-1));
        for (int end : new int[] {-3, -2, 0, 1, 2, 3, 4, 5, 6, 7, 8, 9}) {
            numbers.add(x.choicesTo(end));
        }
        text.chars().forEach(numbers::add);
        return numbers;
    }
}
