import java.math.BigInteger;

/** The edges of the chart and of numbers: a test of its own for each sentence of "Chart" and promises 18 to 23 that names one. */
public final class ChartEdgesTest {
    private static final int NO = Due.NONE;
    private static final int[] FAR = {Integer.MIN_VALUE, Integer.MAX_VALUE};
    private static final int[] ENDS = {-3, -2, 0, 1, 2, 3, 4, 5, 6, 7, 8, 9};
    private static final int[] NO_ENDS = {-4, -1, 10, 11, Integer.MIN_VALUE, Integer.MAX_VALUE};
    private static final String ALL_ENDS = "c4,5,6,1;c7,8,9,2;c10,11,12,3;c13,29,14;e0;e1;e2;e3;e4;e5;e6;e7;e8;e9;j14;";
    private static final String ALL_FLAGS = "c3,5,7,1;c9,11,13,15;j0;f0+;j0;f1+;j0;f2+;j0;f3+;j0;f4+;j0;f5+;j0;e1;";

    public static void main(String[] args) {
        Due.holds("The chart looks at all plays of the script from the beginning, whatever the present play is.",
                ChartEdgesTest::whateverIsPlayed);
        Due.holds("A situation is a node that is shown, and the flags.", ChartEdgesTest::whatSituationsAre);
        Due.holds("Tells how many situations a play can come to.", ChartEdgesTest::fewestAndMost);
        Due.holds("- `node`: the node that is shown in them, 0 to 30 (also one that does not exist), or -1 for all",
                ChartEdgesTest::nodesOfSituations);
        Due.holds("Tells the least number of choices that have to be made to come to an end.", ChartEdgesTest::leastNumbers);
        Due.holds("- `end`: 0 to 9, or -2 or -3", ChartEdgesTest::endsThatThereAre);
        Due.holds("Returns the number; BAD; NONE if no play comes to it.", ChartEdgesTest::endsWithoutWay);
        Due.holds("of the plays with the fewest choices that come to it, the one whose sequence of options is least.",
                ChartEdgesTest::leastWays);
        Due.holds("- `i`: the index of the choice on it, from 0", ChartEdgesTest::firstAndLastChoice);
        Due.holds("Returns the option that is chosen; BAD; NONE if no play comes to the end, or it has not so many choices.",
                ChartEdgesTest::noChoiceThere);
        Due.holds("whether some play can come to a situation in which it is not locked.", ChartEdgesTest::usable);
        Due.holds("Returns 1 or 0; BAD if the node is no choice, or it has not so many options.", ChartEdgesTest::wrongOptions);

        Due.holds("0 for the number of nodes", ChartEdgesTest::nodes);
        Due.holds("1 for that of moments that are kept up to the present one, 2 for that of turned back ones", ChartEdgesTest::moments);
        Due.holds("3 for that of nodes that are seen (30 counts, too)", ChartEdgesTest::seen);
        Due.holds("4 for that of saved moments", ChartEdgesTest::saved);
        Due.holds("5 for that of ends that plays can come to (-2 and -3 count, too)", ChartEdgesTest::ends);
        Due.holds("6 for the length of the text", ChartEdgesTest::length);
        Due.holds("Returns the number; BAD.", ChartEdgesTest::wrongCounts);
        Due.holds("It begins with h = 163; for each of the following numbers v, in this order, h becomes 31 * h + v, in long arithmetic "
                + "with overflow", ChartEdgesTest::digest);
        Due.close("ChartEdgesTest");
    }

    private static void whateverIsPlayed() {
        PictureScript x = Due.played("c1,3,0;f0+;e1;c4?0,5;e2;e3;");
        for (int i = 0; i < 4; i++) {
            Due.way(x, 1, 0);
            Due.noWay(x, 2);
            Due.way(x, 3, 1, 1);
            Due.is("situations(-1)", x.situations(-1), 4);
            Due.is("usable(3, 0)", x.usable(3, 0), 0);
            if (i == 0) {
                x.save(0);
                x.choose(1);
            } else if (i == 1) {
                x.choose(1);
                x.back(1);
            } else {
                x.restore(0);
                x.choose(0);
                Due.write(x, "e2;e1;e1;c1;");
            }
        }
        x.read();
        Due.way(x, 2);
        Due.noWay(x, 1);
        Due.is("situations(-1) of another script", x.situations(-1), 1);
        PictureScript line = Due.played("sa0;c1;");
        Due.write(line, "e1;c2;e2;");
        line.read();
        Due.noWay(line, 2);
    }

    private static void whatSituationsAre() {
        PictureScript portraits = Due.played("c1,3;pa0 0;j0;pb1 1;j0;");
        Due.is("portraits make no other situation", portraits.situations(0), 1);
        PictureScript flags = Due.played("c1,3;f0+;j0;f1+;j0;");
        Due.is("flags do", flags.situations(0), 4);
        PictureScript carried = Due.played("f0+;f1+;ha;c2;");
        Due.is("nodes that are carried out are not shown", carried.situations(-1), 1);
        Due.is("situations(2)", carried.situations(2), 0);
        PictureScript taken = Due.played("c1,3;f0+;j0;f0-;j0;");
        Due.is("a flag that is taken back", taken.situations(0), 2);
    }

    private static void fewestAndMost() {
        Due.is("of a new object", new PictureScript().situations(-1), 1);
        Due.is("of an end alone", Due.played("e1;").situations(-1), 1);
        Due.is("of a play that hangs at once", Due.played("j0;").situations(-1), 1);
        PictureScript x = Due.played(ALL_FLAGS);
        Due.is("of a choice with all flags", x.situations(0), 64);
        Due.is("of an end with all flags", x.situations(15), 64);
        Due.is("of all", x.situations(-1), 192);
        PictureScript most = Due.played("c2,4,6,1;c8,10,13,0;f0+;j0;f1+;j0;f2+;j0;f3+;j0;f4+;j0;j1;f5+;j0;sa0;j16;");
        Due.is("of the first with all flags", most.situations(0), 64);
        Due.is("of the second with all flags", most.situations(1), 64);
        PictureScript lines = Due.played("sa0;".repeat(25));
        Due.is("of 25 lines and what is behind them", lines.situations(-1), 26);
        PictureScript missing = Due.played("f0+;t0 9;c1,20,21,22;");
        Due.is("of a node that does not exist", missing.situations(-1), 1);
    }

    private static void nodesOfSituations() {
        PictureScript x = Due.played("c1,2,3,29;sa0;f0+;j3;");
        int[] due = new int[31];
        due[0] = 1;
        due[1] = 1;
        due[29] = 1;
        due[30] = 2;
        int sum = 0;
        for (int node = 0; node <= 30; node++) {
            Due.is("situations(" + node + ")", x.situations(node), due[node]);
            sum += x.situations(node);
        }
        Due.is("situations(-1)", x.situations(-1), sum);
        for (int node : new int[] {-2, -3, 31, 32, FAR[0], FAR[1]}) {
            Due.is("situations(" + node + ")", x.situations(node), Due.BAD);
        }
    }

    private static void leastNumbers() {
        Due.is("none", Due.played("sa0;sa0;e1;").choicesTo(1), 0);
        Due.is("one rather than two", Due.played("c1,2;c2;e1;").choicesTo(1), 1);
        Due.is("one of two ends of the same number", Due.played("c1,3;c2;e1;e1;").choicesTo(1), 1);
        PictureScript keys = Due.played("c2?0,1;f0+;c0,3?0;e1;");
        Due.is("round about a lock", keys.choicesTo(1), 2);
        StringBuilder row = new StringBuilder();
        for (int node = 1; node <= 20; node++) {
            row.append('c').append(node).append(';');
        }
        Due.is("as many as there are", Due.played(row + "e1;").choicesTo(1), 20);
    }

    private static void endsThatThereAre() {
        PictureScript x = Due.played(ALL_ENDS);
        Due.way(x, 0, 0);
        Due.way(x, 1, 1);
        Due.way(x, 2, 2);
        Due.way(x, 3, 3, 0);
        Due.way(x, 4, 3, 1);
        Due.way(x, 5, 3, 2);
        Due.way(x, 6, 3, 3, 0);
        Due.way(x, 7, 3, 3, 1);
        Due.way(x, 8, 3, 3, 2);
        Due.way(x, 9, 3, 3, 3, 0);
        Due.way(x, -2, 3, 3, 3, 1);
        Due.way(x, -3, 3, 3, 3, 2);
        for (int end : NO_ENDS) {
            Due.is("choicesTo(" + end + ")", x.choicesTo(end), Due.BAD);
            Due.is("wayTo(" + end + ", 0)", x.wayTo(end, 0), Due.BAD);
            Due.is("wayTo(" + end + ", -1)", x.wayTo(end, -1), Due.BAD);
        }
    }

    private static void endsWithoutWay() {
        for (String text : new String[] {"sa0;j0;", "c0;e1;", "c1?0;e1;", "c0,1;c0;"}) {
            PictureScript x = Due.played(text);
            for (int end : ENDS) {
                Due.noWay(x, end);
            }
            Due.is("ends", x.count(5), 0);
            for (int end : NO_ENDS) {
                Due.is("choicesTo(" + end + ")", x.choicesTo(end), Due.BAD);
            }
        }
        Due.noWay(Due.played("e1;e2;"), 2);
        Due.noWay(Due.played("e1;"), -2);
        Due.noWay(Due.played("j9;"), -3);
        Due.noWay(Due.played("j0;"), -2);
    }

    private static void leastWays() {
        Due.way(Due.played("c1,1,1,1;e1;"), 1, 0);
        Due.way(Due.played("c0?0,2!0,1,1;e1;c0;"), 1, 2);
        Due.way(Due.played("c2,1;c3,3;c0,0,3;e1;"), 1, 0, 2);
        Due.way(Due.played("c1,2,3;c4;c3;e1;c3;"), 1, 2);
        // Of two ends of one number the one on the least way, not the one with the lower number.
        Due.way(Due.played("c2,1;e1;e1;"), 1, 0);
        Due.way(Due.played("c1,2;c3,0,4;c4,4;e2;e1;"), 1, 0, 2);
        // The choice in the middle is come to over a line, too, but on a greater way.
        Due.way(Due.played("c2,1;sa0;c3,3;c4;e1;"), 1, 0, 0, 0);
        Due.way(Due.played("c1,5;f0+;c0,3!0,4;e1;e2;f1+;j2;"), 2, 0, 2);
        Due.way(Due.played("c1,5;f0+;c0,3!0,4;e1;e2;f1+;j2;"), 1, 1, 1);
    }

    private static void firstAndLastChoice() {
        PictureScript x = Due.played("c0,1;c0,0,2;c0,0,0,3;c4;e1;");
        int[] due = {1, 2, 3, 0};
        for (int i = 0; i < 4; i++) {
            Due.is("wayTo(1, " + i + ")", x.wayTo(1, i), due[i]);
        }
        Due.is("wayTo(1, 4)", x.wayTo(1, 4), NO);
        Due.is("wayTo(1, -1)", x.wayTo(1, -1), Due.BAD);
        Due.is("wayTo(1, least)", x.wayTo(1, FAR[0]), Due.BAD);
    }

    private static void noChoiceThere() {
        PictureScript x = Due.played("c1,2;sa0;e1;");
        for (int i : new int[] {1, 2, 100, FAR[1]}) {
            Due.is("wayTo(1, " + i + ")", x.wayTo(1, i), NO);
            Due.is("wayTo(2, " + i + ") where no play comes to", x.wayTo(2, i), NO);
        }
        Due.is("wayTo(2, 0) where no play comes to", x.wayTo(2, 0), NO);
        Due.is("wayTo(2, -1) where no play comes to", x.wayTo(2, -1), Due.BAD);
        Due.is("wayTo(-1, 0)", x.wayTo(-1, 0), Due.BAD);
        Due.is("an end without choices", Due.played("e1;").wayTo(1, 0), NO);
        Due.is("an end without choices, -1", Due.played("e1;").wayTo(1, -1), Due.BAD);
    }

    private static void usable() {
        PictureScript x = Due.played("c1?0,2?1,3!0,3;e1;f0+;f1+;j0;c0?5;");
        Due.is("whose flag is set behind another lock", x.usable(0, 0), 1);
        Due.is("whose flag is set later", x.usable(0, 1), 1);
        Due.is("whose flag is not set at first", x.usable(0, 2), 1);
        Due.is("without lock", x.usable(0, 3), 1);
        Due.is("of a choice that no play comes to", x.usable(5, 0), 0);
        PictureScript never = Due.played("c2?5,1;f4+;e1;f5+;j0;");
        Due.is("whose flag no play sets", never.usable(0, 0), 0);
        Due.is("beside it", never.usable(0, 1), 1);
        PictureScript beside = Due.played("c3,1;f0+;c0!0;e1;");
        Due.is("whose flag is not set at the next node alone", beside.usable(2, 0), 0);
        PictureScript before = Due.played("c1,8;f0+;f1+;f2+;f3+;f4+;f5+;e1;c8?5;");
        Due.is("whose flag is set at the node before alone", before.usable(8, 0), 0);
        PictureScript always = Due.played("f3+;c1!3,1?3;");
        Due.is("whose flag is always set", always.usable(1, 0), 0);
        Due.is("which needs that flag", always.usable(1, 1), 1);
        PictureScript all = Due.played("c2,4,6,1;c8,10,13,0?5;f0+;j0;f1+;j0;f2+;j0;f3+;j0;f4+;j0;j1;f5+;j0;");
        Due.is("with the last of all flags", all.usable(1, 3), 1);
    }

    private static void wrongOptions() {
        PictureScript x = Due.played("sa1;c0,0;c0,0,0,0;");
        for (int node : new int[] {-1, 0, 3, 28, 29, 30, FAR[0], FAR[1]}) {
            for (int option : new int[] {-1, 0, 4, FAR[0], FAR[1]}) {
                Due.is("usable(" + node + ", " + option + ")", x.usable(node, option), Due.BAD);
            }
        }
        for (int option : new int[] {-1, 2, 3, 4, FAR[0], FAR[1]}) {
            Due.is("usable(1, " + option + ")", x.usable(1, option), Due.BAD);
        }
        Due.is("usable(1, 1)", x.usable(1, 1), 1);
        Due.is("usable(2, 3)", x.usable(2, 3), 0);
        Due.is("usable(2, 4)", x.usable(2, 4), Due.BAD);
        Due.is("usable(0, 0) of a new object", new PictureScript().usable(0, 0), Due.BAD);
    }

    private static void nodes() {
        PictureScript x = new PictureScript();
        Due.is("of a new object", x.count(0), 0);
        Due.write(x, "ha;".repeat(29));
        Due.is("before read", x.count(0), 0);
        x.read();
        Due.is("the most", x.count(0), 29);
        Due.write(x, "");
        x.read();
        Due.is("none", x.count(0), 0);
    }

    private static void moments() {
        PictureScript x = Due.played("sa0;j0;");
        Due.moments("at first", x, 1, 0);
        for (int kept = 2; kept <= 25; kept++) {
            x.go();
            Due.moments("behind go", x, Math.min(kept, 20), 0);
        }
        for (int back = 1; back <= 19; back++) {
            x.back(1);
            Due.moments("behind back", x, 20 - back, back);
        }
        x.again();
        Due.moments("behind again", x, 2, 18);
        x.go();
        Due.moments("behind go from an earlier one", x, 3, 0);
        x.back(2);
        x.begin();
        Due.moments("behind begin", x, 1, 0);
    }

    private static void seen() {
        Due.is("in the empty script", new PictureScript().count(3), 1);
        PictureScript x = Due.played("c28,29,1;j1;");
        x.choose(0);
        x.begin();
        x.choose(1);
        x.begin();
        Due.is("with 28 and 29, which do not exist", x.count(3), 3);
        x.choose(2);
        Due.is("with 30", x.count(3), 4);
        x.begin();
        x.choose(2);
        Due.is("with 30 once more", x.count(3), 4);
        Due.is("30 alone", Due.played("j0;").count(3), 1);
    }

    private static void saved() {
        PictureScript x = Due.played("sa0;");
        Due.is("none", x.count(4), 0);
        for (int slot = 2; slot >= 0; slot--) {
            x.save(slot);
            x.save(slot);
            Due.is("saved", x.count(4), 3 - slot);
        }
        x.restore(1);
        x.begin();
        Due.is("all of them still", x.count(4), 3);
        x.read();
        Due.is("none behind read", x.count(4), 0);
    }

    private static void ends() {
        Due.is("-2 alone", new PictureScript().count(5), 1);
        Due.is("-3 alone", Due.played("j0;").count(5), 1);
        Due.is("none", Due.played("sa0;j0;").count(5), 0);
        Due.is("all of them", Due.played(ALL_ENDS).count(5), 12);
        Due.is("one end twice", Due.played("c1,2;e1;e1;").count(5), 1);
        Due.is("-2 twice", Due.played("c8,9;").count(5), 1);
        Due.is("an end that no play comes to", Due.played("e1;e2;").count(5), 1);
    }

    private static void length() {
        PictureScript x = new PictureScript();
        for (int length = 0; length <= 100; length++) {
            Due.is("length", x.count(6), length);
            x.type('z');
        }
        Due.is("length of a full text", x.count(6), 100);
        x.clearText();
        Due.is("length of an empty text", x.count(6), 0);
    }

    private static void wrongCounts() {
        PictureScript x = Due.played("sa0;");
        for (int what : new int[] {-1, 7, 8, FAR[0], FAR[1]}) {
            Due.is("count(" + what + ")", x.count(what), Due.BAD);
        }
    }

    /** The whole number, of which a long has the lowest 64 bits. */
    private static long digestOf(PictureScript x, String text) {
        BigInteger h = BigInteger.valueOf(163);
        for (int v : Due.numbersOfDigest(x, text)) {
            h = h.multiply(BigInteger.valueOf(31)).add(BigInteger.valueOf(v));
        }
        Due.is("a digest that overflows", h.bitLength() > 64 ? 1 : 0, 1);
        return h.longValue();
    }

    private static void digest() {
        PictureScript x = new PictureScript();
        Due.is("digest of a new object", x.digest(), 1750736831227128690L);
        Due.is("the same by its numbers", x.digest(), digestOf(x, ""));
        for (String text : new String[] {"c0;", ALL_ENDS, ALL_FLAGS, "ha;".repeat(29), "f0+;pb2 4;c0?0,1!0,2,29;"}) {
            Due.write(x, text);
            Due.is("digest with the text \"" + text + "\"", x.digest(), digestOf(x, text));
            x.read();
            Due.is("digest of the script \"" + text + "\"", x.digest(), digestOf(x, text));
        }
        x.choose(2);
        x.save(1);
        x.back(1);
        x.clearText();
        String full = "\u0000\u007f".repeat(50);
        Due.write(x, full);
        Due.is("digest with a full text", x.digest(), digestOf(x, full));
    }
}
