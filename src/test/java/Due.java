/** What the tests share: the answers that are due, and objects with a text. */
final class Due {
    static final int BAD = -12, STATE = -13, FULL = -14, NONE = -11;

    private static int passed;
    private static int failed;

    private Due() {
    }

    static void is(String call, long got, long due) {
        if (got == due) {
            passed++;
            return;
        }
        failed++;
        System.out.println(call + " answered " + got + ", due is " + due);
    }

    /** Ends the test program with exit code 1 if an answer was not the one that is due. */
    static void close(String test) {
        System.out.println(test + ": " + passed + " answers are as due, " + failed + " are not");
        System.exit(failed == 0 ? 0 : 1);
    }

    /** Puts a text in place of the one that there is. */
    static void write(PictureScript x, String text) {
        x.clearText();
        for (int i = 0; i < text.length(); i++) {
            is("type of byte " + i + " of \"" + text + "\"", x.type(text.charAt(i)), i + 1);
        }
    }

    static PictureScript withText(String text) {
        PictureScript x = new PictureScript();
        write(x, text);
        return x;
    }

    static PictureScript played(String text) {
        PictureScript x = withText(text);
        is("fault of \"" + text + "\"", x.fault(), NONE);
        x.read();
        return x;
    }

    static void moments(String when, PictureScript x, int kept, int turnedBack) {
        is("kept moments " + when, x.count(1), kept);
        is("turned back moments " + when, x.count(2), turnedBack);
    }

    static void portraits(String when, PictureScript x, int... voicesAndFaces) {
        for (int place = 0; place < 3; place++) {
            is("voice at " + place + " " + when, x.portrait(place, false), voicesAndFaces[2 * place]);
            is("face at " + place + " " + when, x.portrait(place, true), voicesAndFaces[2 * place + 1]);
        }
    }

    static void way(PictureScript x, int end, int... options) {
        is("choices to " + end, x.choicesTo(end), options.length);
        for (int i = 0; i < options.length; i++) {
            is("way to " + end + ", choice " + i, x.wayTo(end, i), options[i]);
        }
        is("way to " + end + ", a choice too many", x.wayTo(end, options.length), NONE);
    }
}
