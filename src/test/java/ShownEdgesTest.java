/** The edges of what is shown: a test of its own for each sentence of promises 14 to 17 that names one. */
public final class ShownEdgesTest {
    private static final int NO = Due.NONE;
    private static final int[] FAR = {Integer.MIN_VALUE, Integer.MAX_VALUE};

    public static void main(String[] args) {
        Due.holds("1 for its kind (0 a line, 1 a choice, 2 an end)", ShownEdgesTest::kinds);
        Due.holds("2 for its voice (NONE if it is no line)", ShownEdgesTest::voices);
        Due.holds("3 for its line, end (also -2 and -3), or number of options", ShownEdgesTest::numbers);
        Due.holds("4 for the sum of the powers of 2 with the flags that are set", ShownEdgesTest::flags);
        Due.holds("5 for the sum of the powers of 2 with the options that are not locked (NONE if it is no choice)",
                ShownEdgesTest::openOptions);
        Due.holds("Returns the number; BAD.", ShownEdgesTest::wrongShown);
        Due.holds("- `place`: 0 to 2", ShownEdgesTest::wrongPlaces);
        Due.holds("- `face`: whether the face is meant, else the voice", ShownEdgesTest::facesAndVoices);
        Due.holds("Returns the number; BAD; NONE if nobody stands there.", ShownEdgesTest::nobodyThere);
        Due.holds("1 to 3 for its numbers in the order of the text (voices by their numbers; signs: 1 for +, 0 for -; of a choice: "
                + "the number of its options alone)", ShownEdgesTest::partsOfNodes);
        Due.holds("Returns the part; BAD; NONE if it has not so many.", ShownEdgesTest::wrongNodes);
        Due.holds("0 for the node to which it leads, 1 for its lock (0 none, 1 for ?, 2 for !), 2 for the flag of the lock "
                + "(NONE without one)", ShownEdgesTest::partsOfOptions);
        Due.holds("Returns the part; BAD if the node is no choice, or option is negative or what is out of range; NONE if it has not "
                + "so many options.", ShownEdgesTest::wrongOptions);
        Due.close("ShownEdgesTest");
    }

    private static void shown(String text, int what, int due) {
        Due.is("shown(" + what + ") of \"" + text + "\"", Due.played(text).shown(what), due);
    }

    private static void kinds() {
        shown("sa0;", 1, 0);
        shown("c0;", 1, 1);
        shown("c0?0;", 1, 1);
        shown("e0;", 1, 2);
        shown("", 1, 2);
        shown("j0;", 1, 2);
    }

    private static void voices() {
        shown("sa99;", 2, 0);
        shown("sf99;", 2, 5);
        shown("c1;", 2, NO);
        shown("e1;", 2, NO);
        shown("", 2, NO);
        shown("j5;", 2, NO);
        shown("j0;", 2, NO);
    }

    private static void numbers() {
        shown("sf0;", 3, 0);
        shown("sf99;", 3, 99);
        shown("c9;", 3, 1);
        shown("c9,9?0,9!0,9;", 3, 4);
        shown("e0;", 3, 0);
        shown("e9;", 3, 9);
        shown("", 3, -2);
        shown("j1;", 3, -2);
        shown("j29;", 3, -2);
        shown("j0;", 3, -3);
    }

    private static void flags() {
        shown("sa0;", 4, 0);
        for (int flag = 0; flag <= 5; flag++) {
            shown("f" + flag + "+;c0;", 4, 1 << flag);
        }
        shown("f0+;f1+;f2+;f3+;f4+;f5+;e0;", 4, 63);
        shown("f0+;f1+;f2+;f3+;f4+;f5+;f0-;f5-;", 4, 30);
        shown("", 4, 0);
        shown("f5+;j1;", 4, 32);
    }

    private static void openOptions() {
        shown("c0,0,0,0;", 5, 15);
        shown("c0;", 5, 1);
        shown("c0?0;", 5, 0);
        shown("c0?0,0?0,0?0,0;", 5, 8);
        shown("f5+;c0!5,0?5,0,0?4;", 5, 6);
        shown("sa1;", 5, NO);
        shown("e1;", 5, NO);
        shown("", 5, NO);
        shown("j0;", 5, NO);
    }

    private static void wrongShown() {
        for (String text : new String[] {"", "sa1;", "c0;", "e1;", "j0;"}) {
            PictureScript x = Due.played(text);
            for (int what : new int[] {-1, 6, 7, FAR[0], FAR[1]}) {
                Due.is("shown(" + what + ") of \"" + text + "\"", x.shown(what), Due.BAD);
            }
        }
    }

    private static void wrongPlaces() {
        PictureScript x = Due.played("pa0 0;pb1 0;pc2 0;e1;");
        for (int place : new int[] {-1, 3, 4, FAR[0], FAR[1]}) {
            Due.is("voice at " + place, x.portrait(place, false), Due.BAD);
            Due.is("face at " + place, x.portrait(place, true), Due.BAD);
        }
        Due.portraits("at all places", x, 0, 0, 1, 0, 2, 0);
    }

    private static void facesAndVoices() {
        PictureScript x = Due.played("pa0 4;pf2 0;e1;");
        Due.is("the least voice", x.portrait(0, false), 0);
        Due.is("the greatest face", x.portrait(0, true), 4);
        Due.is("the greatest voice", x.portrait(2, false), 5);
        Due.is("the least face", x.portrait(2, true), 0);
    }

    private static void nobodyThere() {
        Due.nobody("in the empty script", new PictureScript());
        PictureScript x = Due.played("pa0 0;pa2 1;pb1 2;hb;e1;");
        Due.portraits("at left and hidden places", x, NO, NO, NO, NO, 0, 1);
        Due.is("BAD beside nobody", x.portrait(3, true), Due.BAD);
    }

    private static void partsOfNodes() {
        String[] texts = {"sf99;", "pf2 4;", "hf;", "f5+;", "f5-;", "j29;", "t5 29;", "c29?5,28!4;", "e9;"};
        int[][] due = {{0, 5, 99, NO}, {1, 5, 2, 4}, {2, 5, NO, NO}, {3, 5, 1, NO}, {3, 5, 0, NO}, {4, 29, NO, NO},
            {5, 5, 29, NO}, {6, 2, NO, NO}, {7, 9, NO, NO}};
        for (int i = 0; i < texts.length; i++) {
            PictureScript first = Due.played(texts[i]);
            PictureScript last = Due.played("pa1 1;" + "ha;".repeat(27) + texts[i]);
            for (int what = 0; what <= 3; what++) {
                Due.is("part " + what + " of \"" + texts[i] + "\"", first.node(0, what), due[i][what]);
                Due.is("part " + what + " of the 29th node \"" + texts[i] + "\"", last.node(28, what), due[i][what]);
            }
        }
    }

    private static void wrongNodes() {
        PictureScript x = Due.played("pa1 2;e0;");
        for (int what : new int[] {-1, 4, 5, FAR[0], FAR[1]}) {
            Due.is("node(0, " + what + ")", x.node(0, what), Due.BAD);
            Due.is("node(1, " + what + ")", x.node(1, what), Due.BAD);
        }
        for (int node : new int[] {-1, 2, 3, 28, 29, 30, FAR[0], FAR[1]}) {
            for (int what = -1; what <= 4; what++) {
                Due.is("node(" + node + ", " + what + ")", x.node(node, what), Due.BAD);
            }
        }
        Due.is("a third number of an end", x.node(1, 3), NO);
        Due.write(x, "e3;");
        x.read();
        Due.is("a node of the script before", x.node(1, 0), Due.BAD);
        Due.is("a second number where one stood before", x.node(0, 2), NO);
        Due.is("the empty script", new PictureScript().node(0, 0), Due.BAD);
    }

    private static void options(PictureScript x, int node, int[][] due) {
        for (int option = 0; option < due.length; option++) {
            for (int what = 0; what <= 2; what++) {
                Due.is("option(" + node + ", " + option + ", " + what + ")", x.option(node, option, what), due[option][what]);
            }
        }
    }

    private static void partsOfOptions() {
        PictureScript x = Due.played("c0,9?0,0!5,7;" + "ha;".repeat(27) + "c29!0;");
        options(x, 0, new int[][] {{0, 0, NO}, {9, 1, 0}, {0, 2, 5}, {7, 0, NO}});
        options(x, 28, new int[][] {{29, 2, 0}});
        Due.write(x, "c1,2,3;");
        x.read();
        options(x, 0, new int[][] {{1, 0, NO}, {2, 0, NO}, {3, 0, NO}});
    }

    private static void wrongOptions() {
        PictureScript x = Due.played("sa1;c0,0;c0,0,0,0;");
        for (int node : new int[] {-1, 0, 3, 28, 29, 30, FAR[0], FAR[1]}) {
            for (int what = -1; what <= 3; what++) {
                Due.is("option(" + node + ", 0, " + what + ")", x.option(node, 0, what), Due.BAD);
                Due.is("option(" + node + ", 9, " + what + ")", x.option(node, 9, what), Due.BAD);
            }
        }
        for (int option : new int[] {-1, -2, FAR[0]}) {
            Due.is("option(1, " + option + ", 0)", x.option(1, option, 0), Due.BAD);
            Due.is("option(2, " + option + ", 2)", x.option(2, option, 2), Due.BAD);
        }
        for (int what : new int[] {-1, 3, 4, FAR[0], FAR[1]}) {
            Due.is("option(1, 0, " + what + ")", x.option(1, 0, what), Due.BAD);
            Due.is("option(1, 2, " + what + ")", x.option(1, 2, what), Due.BAD);
        }
        for (int option : new int[] {2, 3, 4, 5, FAR[1]}) {
            Due.is("option(1, " + option + ", 0)", x.option(1, option, 0), NO);
            Due.is("option(1, " + option + ", 2)", x.option(1, option, 2), NO);
        }
        Due.is("option(2, 3, 0)", x.option(2, 3, 0), 0);
        Due.is("option(2, 4, 0)", x.option(2, 4, 0), NO);
    }
}
