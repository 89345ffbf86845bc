/** Promises 18 to 21: situations, choicesTo, wayTo, usable. */
public final class ChartTest {
    public static void main(String[] args) {
        situations();
        ringsOfLines();
        theChartLooksFromTheBeginning();
        nothingStaysOfAnEarlierScript();
        fewestChoices();
        leastWay();
        leastWayAmongDetours();
        endsInSeveralPlaces();
        hangingAndMissingEnds();
        longWay();
        allFlags();
        usable();
        wrongArguments();
        Due.close("ChartTest");
    }

    private static void situations() {
        PictureScript x = Due.played("c1,3,29;f0+;j0;f1+;sa0;e1;");
        Due.is("situations(0)", x.situations(0), 2);
        Due.is("situations(1), which is not shown", x.situations(1), 0);
        Due.is("situations(4)", x.situations(4), 2);
        Due.is("situations(5)", x.situations(5), 2);
        Due.is("situations(6), which no play comes to", x.situations(6), 0);
        Due.is("situations(29)", x.situations(29), 2);
        Due.is("situations(30)", x.situations(30), 0);
        Due.is("situations(-1)", x.situations(-1), 8);
        PictureScript empty = new PictureScript();
        Due.is("situations(-1) of the empty script", empty.situations(-1), 1);
        Due.is("situations(0) of the empty script", empty.situations(0), 1);
    }

    private static void ringsOfLines() {
        PictureScript x = Due.played("sa0;sb1;f0+;j0;e1;");
        Due.is("situations(0)", x.situations(0), 2);
        Due.is("situations(-1)", x.situations(-1), 4);
        Due.is("ends of a ring", x.count(5), 0);
        Due.is("choicesTo(1)", x.choicesTo(1), Due.NONE);
        Due.is("choicesTo(-2)", x.choicesTo(-2), Due.NONE);
        Due.is("choicesTo(-3)", x.choicesTo(-3), Due.NONE);
        Due.is("wayTo(1, 0)", x.wayTo(1, 0), Due.NONE);
    }

    private static void theChartLooksFromTheBeginning() {
        PictureScript x = Due.played("c1,3;sa0;e1;f0+;e2;");
        long before = x.situations(-1);
        x.choose(1);
        Due.way(x, 1, 0);
        Due.way(x, 2, 1);
        Due.is("situations then", x.situations(-1), before);
        Due.is("usable then", x.usable(0, 0), 1);
        Due.write(x, "e3;");
        Due.way(x, 1, 0);
        x.read();
        Due.is("choicesTo(1) in the new script", x.choicesTo(1), Due.NONE);
        Due.way(x, 3);
        Due.is("situations of the new script", x.situations(-1), 1);
    }

    private static void nothingStaysOfAnEarlierScript() {
        PictureScript x = Due.played("c1,3;f0+;j0;f1+;e3;");
        Due.way(x, 3, 1);
        Due.write(x, "c1?0,2;e5;t1 5;t0 5;e6;e7;");
        x.read();
        Due.is("a flag of the script before", x.choicesTo(5), Due.NONE);
        Due.way(x, 6, 1);
        Due.is("another flag of the script before", x.choicesTo(7), Due.NONE);
        Due.is("an end of the script before", x.choicesTo(3), Due.NONE);
        Due.is("usable(0, 0)", x.usable(0, 0), 0);
        Due.is("situations(-1)", x.situations(-1), 2);
        Due.write(x, "t0 3;t1 3;e1;e2;");
        x.read();
        Due.way(x, 1);
        Due.is("situations(-1) of the third", x.situations(-1), 1);
        PictureScript y = Due.played("f0+;c0;");
        Due.write(y, "e1;c2;e2;");
        y.read();
        Due.is("behind a choice of the script before", y.choicesTo(2), Due.NONE);
        Due.is("situations(-1) there", y.situations(-1), 1);
    }

    private static void fewestChoices() {
        PictureScript x = Due.played("c1,4;sa0;c3,5;e1;sa0;e2;e3;");
        Due.way(x, 1, 0, 0);
        Due.way(x, 2, 1);
        Due.is("end 3, to which nothing leads", x.choicesTo(3), Due.NONE);
        PictureScript lines = Due.played("sa0;sa1;sa2;e4;");
        Due.way(lines, 4);
        PictureScript locked = Due.played("c2?0,1;f0+;c3,0?0;e1;");
        Due.way(locked, 1, 1, 0);
        Due.is("ends", locked.count(5), 1);
    }

    private static void leastWay() {
        PictureScript x = Due.played("c3,2,1,1;c4;c4,4;c0?0,1;e1;");
        Due.way(x, 1, 1, 0);
        PictureScript y = Due.played("c2,1;c4,3;c3,3,3;e1;e2;");
        Due.way(y, 1, 0, 0);
        Due.way(y, 2, 1, 0);
        PictureScript z = Due.played("c1,1,3;c0,0,0,2;c4;c4;e7;");
        Due.way(z, 7, 2, 0);
    }

    /** The least option at first may lead by a longer way; the fewest choices come first. */
    private static void leastWayAmongDetours() {
        PictureScript x = Due.played("c1,2,3;c4;c5,5;c6;c5;e1;j5;");
        Due.way(x, 1, 1, 0);
        PictureScript flags = Due.played("c1,3;f0+;j0;c0,5?0;e1;e2;");
        Due.way(flags, 2, 0, 1, 1);
        Due.is("end 1 has no way", flags.choicesTo(1), Due.NONE);
    }

    private static void endsInSeveralPlaces() {
        PictureScript x = Due.played("c2,1;e5;c3;e5;");
        Due.way(x, 5, 1);
        Due.is("ends", x.count(5), 1);
        PictureScript y = Due.played("c1,3;f0+;e5;e5;");
        Due.way(y, 5, 0);
        Due.is("situations of the first", y.situations(2), 1);
        Due.is("situations of the second", y.situations(3), 1);
        PictureScript z = Due.played("c1,2,3;e3;e2;e9;e0;");
        Due.way(z, 3, 0);
        Due.way(z, 2, 1);
        Due.way(z, 9, 2);
        Due.is("end 0", z.choicesTo(0), Due.NONE);
        Due.is("three ends", z.count(5), 3);
    }

    private static void hangingAndMissingEnds() {
        PictureScript x = Due.played("c1,2,20;j1;sa0;f1+;t1 4;");
        Due.way(x, -3, 0);
        Due.way(x, -2, 2);
        Due.is("situations(30)", x.situations(30), 2);
        Due.is("situations(20)", x.situations(20), 1);
        Due.is("situations(-1)", x.situations(-1), 5);
        Due.is("ends", x.count(5), 2);
    }

    /** A flag more for every round, each of them only behind the one before. */
    private static void longWay() {
        PictureScript x = Due.played("c2,4?0,6?1,8?2;e1;f0+;j0;f1+;j0;f2+;j0;c0,1?3,10;e2;f3+;j8;");
        Due.way(x, 1, 0, 1, 2, 3, 2, 1);
        Due.is("end 2", x.choicesTo(2), Due.NONE);
        PictureScript end = Due.played("c1;c2;c3;c4;c5;c6;c7;c8;c9;c10;c11;c12;c13;c14;c15;e1;");
        Due.way(end, 1, 0, 0, 0, 0, 0, 0, 0, 0, 0, 0, 0, 0, 0, 0, 0);
    }

    private static void allFlags() {
        PictureScript x = Due.played("c3,5,7,1;c9,11,13,15;j0;f0+;j0;f1+;j0;f2+;j0;f3+;j0;f4+;j0;f5+;j0;e1;");
        Due.is("situations(0)", x.situations(0), 64);
        Due.is("situations(1)", x.situations(1), 64);
        Due.is("situations(15)", x.situations(15), 64);
        Due.is("situations(-1)", x.situations(-1), 192);
        Due.way(x, 1, 3, 3);
    }

    private static void usable() {
        PictureScript x = Due.played("c1,2?0,3!0,4?1;f0+;c0!0,0?0;j0;c5,6;e1;e2;");
        Due.is("usable(0, 0)", x.usable(0, 0), 1);
        Due.is("usable(0, 1), behind the flag is set", x.usable(0, 1), 1);
        Due.is("usable(0, 2), before the flag is set", x.usable(0, 2), 1);
        Due.is("usable(0, 3), whose flag is never set", x.usable(0, 3), 0);
        Due.is("usable(2, 0), where the flag is always set", x.usable(2, 0), 0);
        Due.is("usable(2, 1)", x.usable(2, 1), 1);
        Due.is("usable(4, 0) of a choice that no play comes to", x.usable(4, 0), 0);
        Due.is("usable(4, 1)", x.usable(4, 1), 0);
        x.choose(0);
        Due.is("usable(0, 2) later on", x.usable(0, 2), 1);
    }

    private static void wrongArguments() {
        PictureScript x = Due.played("sa0;c0,1;e1;");
        for (int node : new int[] {-2, 31, Integer.MIN_VALUE, Integer.MAX_VALUE}) {
            Due.is("situations(" + node + ")", x.situations(node), Due.BAD);
        }
        for (int end : new int[] {-1, -4, 10, Integer.MIN_VALUE, Integer.MAX_VALUE}) {
            Due.is("choicesTo(" + end + ")", x.choicesTo(end), Due.BAD);
            Due.is("wayTo(" + end + ", 0)", x.wayTo(end, 0), Due.BAD);
            Due.is("wayTo(" + end + ", -1)", x.wayTo(end, -1), Due.BAD);
        }
        Due.is("wayTo(1, -1)", x.wayTo(1, -1), Due.BAD);
        Due.is("wayTo(1, least)", x.wayTo(1, Integer.MIN_VALUE), Due.BAD);
        Due.is("wayTo(1, 0)", x.wayTo(1, 0), Due.NONE);
        Due.is("wayTo(1, greatest)", x.wayTo(1, Integer.MAX_VALUE), Due.NONE);
        for (int node : new int[] {-1, 0, 2, 3, 29, 30, Integer.MIN_VALUE, Integer.MAX_VALUE}) {
            Due.is("usable(" + node + ", 0)", x.usable(node, 0), Due.BAD);
        }
        for (int option : new int[] {-1, 2, 4, Integer.MIN_VALUE, Integer.MAX_VALUE}) {
            Due.is("usable(1, " + option + ")", x.usable(1, option), Due.BAD);
        }
    }
}
