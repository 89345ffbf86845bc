/** Promises 22 and 23: count and digest. */
public final class NumbersTest {
    public static void main(String[] args) {
        count();
        wrongCounts();
        seenNodes();
        digest();
        callsThatOnlyTell();
        callsThatAreRefused();
        Due.close("NumbersTest");
    }

    private static void counts(String when, PictureScript x, int... due) {
        for (int what = 0; what < 7; what++) {
            Due.is("count(" + what + ") " + when, x.count(what), due[what]);
        }
    }

    private static void count() {
        PictureScript x = Due.played("sa0;c0,3,4,29;e0;e1;e1;");
        counts("behind read", x, 5, 1, 0, 1, 0, 2, 23);
        x.go();
        x.save(0);
        x.save(1);
        x.save(1);
        counts("behind go and save", x, 5, 2, 0, 2, 2, 2, 23);
        x.choose(3);
        x.back(2);
        counts("behind choose and back", x, 5, 1, 2, 3, 2, 2, 23);
        x.clearText();
        x.type('x');
        counts("with another text", x, 5, 1, 2, 3, 2, 2, 1);
        Due.write(x, "j0;");
        x.read();
        counts("in a play that hangs", x, 1, 1, 0, 1, 0, 1, 3);
    }

    private static void wrongCounts() {
        PictureScript x = new PictureScript();
        for (int what : new int[] {-1, 7, Integer.MIN_VALUE, Integer.MAX_VALUE}) {
            Due.is("count(" + what + ")", x.count(what), Due.BAD);
        }
    }

    private static void seenNodes() {
        PictureScript x = Due.played("c1,2,20,29;sa1;j2;");
        x.choose(0);
        Due.is("seen", x.count(3), 2);
        x.go();
        Due.is("30 counts, too", x.count(3), 3);
        x.begin();
        x.choose(2);
        Due.is("a node that does not exist counts", x.count(3), 4);
        x.begin();
        x.choose(3);
        Due.is("and another", x.count(3), 5);
        x.begin();
        x.choose(1);
        Due.is("30 once more", x.count(3), 5);
    }

    private static long digestOf(PictureScript x, String text) {
        long h = 163;
        for (int v : Due.numbersOfDigest(x, text)) {
            h = 31 * h + v;
        }
        return h;
    }

    private static void digest() {
        PictureScript x = new PictureScript();
        Due.is("digest of a new object", x.digest(), 1750736831227128690L);
        Due.is("digest by its words", digestOf(x, ""), 1750736831227128690L);
        String text = "sa0;pc1 4;c0,3?1,29;f0+;e1;";
        Due.write(x, text);
        Due.is("digest with a text", x.digest(), digestOf(x, text));
        x.read();
        Due.is("digest of a script", x.digest(), digestOf(x, text));
        x.go();
        Due.is("digest behind go", x.digest(), digestOf(x, text));
        x.save(2);
        x.choose(0);
        x.back(1);
        Due.is("digest behind more", x.digest(), digestOf(x, text));
        Due.is("digest a second time", x.digest(), digestOf(x, text));
    }

    private static void callsThatOnlyTell() {
        String text = "sa0;pc1 4;c0,3?1,29;f0+;e1;";
        PictureScript x = Due.played(text);
        x.go();
        x.back(1);
        long before = x.digest();
        x.fault();
        for (int i = -3; i < 32; i++) {
            x.shown(i);
            x.portrait(i, true);
            x.node(i, 1);
            x.option(i, 1, 1);
            x.situations(i);
            x.choicesTo(i);
            x.wayTo(i, 0);
            x.usable(i, 0);
            x.count(i);
        }
        Due.is("digest behind calls that only tell", x.digest(), before);
    }

    private static void callsThatAreRefused() {
        PictureScript x = Due.played("sa0;pc1 4;c0,3?1,29;f0+;e1;");
        x.go();
        Due.write(x, "z".repeat(100));
        long before = x.digest();
        x.type('a');
        x.type(-1);
        x.read();
        x.go();
        x.choose(-1);
        x.choose(1);
        x.choose(3);
        x.skip();
        x.back(0);
        x.back(2);
        x.back(21);
        x.again();
        x.save(3);
        x.restore(0);
        x.restore(3);
        Due.is("digest behind calls that are refused", x.digest(), before);
        Due.is("back then", x.back(1), 0);
        Due.is("choose at a line", x.choose(0), Due.STATE);
        Due.is("again then", x.again(), 2);
    }
}
