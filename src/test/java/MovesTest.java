/** Promises 6 to 13: begin, go, choose, skip, back, again, save, restore; and what nodes do on the way. */
public final class MovesTest {
    public static void main(String[] args) {
        begin();
        beginFromAnywhere();
        go();
        portraitsMove();
        flagsAndTests();
        missingNodes();
        sixtyNodesAreCarriedOut();
        sixtyOneNodesHang();
        hangingKeepsWhatStands();
        choose();
        lockedOptions();
        skip();
        skipStopsAtWhatIsNew();
        skipSixtyTimes();
        back();
        again();
        goingOnForgetsTurnedBackOnes();
        twentyMoments();
        saveAndRestore();
        wrongSlots();
        Due.close("MovesTest");
    }

    private static void begin() {
        PictureScript x = Due.played("f1+;pa0 2;sa1;f2+;pb1 3;sb2;e3;");
        x.save(1);
        x.go();
        x.go();
        x.back(1);
        Due.is("begin", x.begin(), 2);
        Due.is("node", x.shown(0), 2);
        Due.is("flags", x.shown(4), 2);
        Due.moments("behind begin", x, 1, 0);
        Due.portraits("behind begin", x, 0, 2, Due.NONE, Due.NONE, Due.NONE, Due.NONE);
        Due.is("seen stays", x.count(3), 3);
        Due.is("saved stays", x.count(4), 1);
        Due.is("again behind begin", x.again(), Due.STATE);
        Due.is("back behind begin", x.back(1), Due.STATE);
    }

    private static void beginFromAnywhere() {
        PictureScript x = Due.played("sa0;f0+;pa0 1;f1+;sb1;t0 0;e1;");
        x.go();
        x.save(0);
        x.restore(0);
        Due.is("begin from a moment with flags", x.begin(), 0);
        Due.is("flags then", x.shown(4), 0);
        Due.portraits("then", x, Due.NONE, Due.NONE, Due.NONE, Due.NONE, Due.NONE, Due.NONE);
        for (int i = 0; i < 30; i++) {
            x.go();
        }
        Due.is("begin when the first moment is forgotten", x.begin(), 0);
        Due.is("flags then", x.shown(4), 0);
        Due.portraits("then", x, Due.NONE, Due.NONE, Due.NONE, Due.NONE, Due.NONE, Due.NONE);
        Due.moments("then", x, 1, 0);
    }

    private static void go() {
        PictureScript x = Due.played("sa1;j3;sb2;sc3;e4;");
        Due.is("go", x.go(), 3);
        Due.is("voice", x.shown(2), 2);
        Due.is("go to the end", x.go(), 4);
        Due.moments("behind two goes", x, 3, 0);
        Due.is("go from an end", x.go(), Due.STATE);
        Due.moments("behind a go that is refused", x, 3, 0);
        PictureScript choice = Due.played("c0;");
        Due.is("go from a choice", choice.go(), Due.STATE);
        PictureScript missing = Due.played("j9;");
        Due.is("go from a node that does not exist", missing.go(), Due.STATE);
    }

    private static void portraitsMove() {
        PictureScript x = Due.played("pa0 1;sa0;pb1 2;sa0;pa1 3;sa0;pc1 4;sa0;pc1 0;sa0;pc2 1;pa0 2;sa0;hc;hb;sa0;");
        int no = Due.NONE;
        Due.portraits("at the beginning", x, 0, 1, no, no, no, no);
        x.go();
        Due.portraits("with two voices", x, 0, 1, 1, 2, no, no);
        x.go();
        Due.portraits("when one takes the other's place", x, no, no, 0, 3, no, no);
        x.go();
        Due.portraits("when the place is taken again", x, no, no, 2, 4, no, no);
        x.go();
        Due.portraits("with another face at the same place", x, no, no, 2, 0, no, no);
        x.go();
        Due.portraits("at two free places", x, 0, 2, no, no, 2, 1);
        x.go();
        Due.portraits("behind hiding, also of one who does not stand", x, 0, 2, no, no, no, no);
        x.back(5);
        Due.portraits("turned back", x, 0, 1, 1, 2, no, no);
        x.again();
        Due.portraits("turned forth", x, no, no, 0, 3, no, no);
    }

    private static void flagsAndTests() {
        PictureScript x = Due.played("t0 5;f0+;sa1;t0 6;e1;e2;f5+;f0-;t0 4;sb2;");
        Due.is("a test of a flag that is not set goes to the next node", x.shown(0), 2);
        Due.is("flags", x.shown(4), 1);
        Due.is("a test of a flag that is set goes to its node", x.go(), 9);
        Due.is("flags behind taking one back", x.shown(4), 32);
        Due.is("go on behind the last node", x.go(), 10);
        Due.is("end behind the last node", x.shown(3), -2);
        Due.is("flags there", x.shown(4), 32);
    }

    private static void missingNodes() {
        PictureScript x = Due.played("j29;e1;");
        Due.is("node", x.shown(0), 29);
        Due.is("kind", x.shown(1), 2);
        Due.is("end", x.shown(3), -2);
        Due.is("seen", x.count(3), 1);
        PictureScript most = Due.played("ha;".repeat(28) + "sa0;");
        Due.is("the last of 29 nodes", most.shown(0), 28);
        Due.is("go behind 29 nodes", most.go(), 29);
        Due.is("end there", most.shown(3), -2);
    }

    /** Three rounds over 17 nodes, and 9 nodes between them: 60 in all. */
    private static void sixtyNodesAreCarriedOut() {
        PictureScript x = Due.played("ha;".repeat(17) + "t1 23;t0 21;f0+;j0;f1+;j0;e5;");
        Due.is("node behind 60", x.shown(0), 23);
        Due.is("end behind 60", x.shown(3), 5);
        Due.is("flags behind 60", x.shown(4), 3);
        PictureScript missing = Due.played("ha;".repeat(17) + "t1 29;t0 21;f0+;j0;f1+;j0;e5;");
        Due.is("a node that does not exist behind 60", missing.shown(0), 29);
        Due.is("its end", missing.shown(3), -2);
    }

    private static void sixtyOneNodesHang() {
        PictureScript x = Due.played("ha;".repeat(17) + "t1 24;t0 22;f0+;ha;j0;f1+;j0;e5;");
        Due.is("node behind 61", x.shown(0), 30);
        Due.is("kind behind 61", x.shown(1), 2);
        Due.is("end behind 61", x.shown(3), -3);
        Due.is("flags behind 61", x.shown(4), 3);
        Due.is("go from there", x.go(), Due.STATE);
        Due.is("choose there", x.choose(0), Due.STATE);
        Due.is("skip there", x.skip(), Due.STATE);
    }

    private static void hangingKeepsWhatStands() {
        PictureScript x = Due.played("f0+;f1+;f2+;f0-;f1-;f2-;j0;");
        Due.is("flags behind 8 rounds of 7 and 4 more", x.shown(4), 6);
        PictureScript y = Due.played("sa0;pa0 0;pa1 1;pa2 2;pb1 3;hb;ha;j1;");
        Due.is("go into a hanging play", y.go(), 30);
        Due.portraits("behind 8 rounds of 7 and 4 more", y, Due.NONE, Due.NONE, 1, 3, 0, 2);
        Due.is("seen", y.count(3), 2);
        Due.is("back", y.back(1), 0);
        Due.is("again", y.again(), 30);
        Due.is("save", y.save(0), 30);
        Due.is("restore", y.restore(0), 30);
        Due.is("end restored", y.shown(3), -3);
    }

    private static void choose() {
        PictureScript x = Due.played("c1,3,29;e1;e2;f3+;pe2 4;c0;");
        Due.is("choose(-1)", x.choose(-1), Due.BAD);
        Due.is("choose(least)", x.choose(Integer.MIN_VALUE), Due.BAD);
        Due.is("choose(3)", x.choose(3), Due.STATE);
        Due.is("choose(4)", x.choose(4), Due.STATE);
        Due.is("choose(greatest)", x.choose(Integer.MAX_VALUE), Due.STATE);
        Due.moments("behind wrong choices", x, 1, 0);
        Due.is("choose(1)", x.choose(1), 5);
        Due.is("flags", x.shown(4), 8);
        Due.portraits("behind choose", x, Due.NONE, Due.NONE, Due.NONE, Due.NONE, 4, 4);
        Due.is("choose(0)", x.choose(0), 0);
        Due.is("flags stay", x.shown(4), 8);
        Due.is("choose(2)", x.choose(2), 29);
        Due.is("choose at an end", x.choose(0), Due.STATE);
        Due.is("choose(-1) at an end", x.choose(-1), Due.BAD);
        PictureScript line = Due.played("sa0;");
        Due.is("choose at a line", line.choose(0), Due.STATE);
        Due.is("choose(-1) at a line", line.choose(-1), Due.BAD);
    }

    private static void lockedOptions() {
        PictureScript x = Due.played("c2?1,2!1,3;e0;f1+;j0;");
        Due.is("open ones", x.shown(5), 6);
        Due.is("? without the flag", x.choose(0), Due.STATE);
        Due.is("! without the flag", x.choose(1), 0);
        Due.is("open ones with the flag", x.shown(5), 5);
        Due.is("! with the flag", x.choose(1), Due.STATE);
        Due.moments("behind a locked option", x, 2, 0);
        Due.is("? with the flag", x.choose(0), 0);
        Due.is("without lock", x.choose(2), 0);
        PictureScript other = Due.played("f0+;c2?1,2!1,0?0;");
        Due.is("another flag opens nothing", other.shown(5), 6);
        PictureScript closed = Due.played("c0?0;");
        Due.is("all locked", closed.shown(5), 0);
        Due.is("choose where all is locked", closed.choose(0), Due.STATE);
    }

    private static void skip() {
        PictureScript x = Due.played("sa0;sa1;sa2;sa3;c0;e1;");
        Due.is("skip to a line that is new", x.skip(), 1);
        Due.is("node", x.shown(0), 1);
        x.go();
        x.begin();
        Due.is("skip over seen lines to the first new one", x.skip(), 3);
        Due.is("node then", x.shown(0), 3);
        Due.moments("behind skip", x, 4, 0);
        Due.is("skip to a choice", x.skip(), 1);
        Due.is("node of the choice", x.shown(0), 4);
        Due.is("skip at a choice", x.skip(), Due.STATE);
        Due.moments("behind a skip that is refused", x, 5, 0);
        x.begin();
        Due.is("skip over all lines to a choice that is seen", x.skip(), 4);
        Due.is("node at last", x.shown(0), 4);
        x.back(3);
        Due.is("skip from a moment that was turned back to", x.skip(), 3);
        Due.moments("behind that skip", x, 5, 0);
    }

    private static void skipStopsAtWhatIsNew() {
        PictureScript x = Due.played("sa0;sa1;e2;");
        x.go();
        x.go();
        x.begin();
        Due.is("skip to an end that is seen", x.skip(), 2);
        Due.is("skip at an end", x.skip(), Due.STATE);
        PictureScript y = Due.played("c1,3;sa1;e1;sa3;sa4;e2;");
        y.choose(1);
        y.go();
        y.begin();
        y.choose(0);
        Due.is("skip to an end that is new", y.skip(), 1);
        y.begin();
        y.choose(1);
        Due.is("skip stops at an end that is new", y.skip(), 2);
        Due.is("that end", y.shown(3), 2);
        PictureScript z = Due.played("sa0;sa1;sa2;");
        z.go();
        z.back(1);
        Due.is("what was turned back stays seen", z.skip(), 2);
    }

    private static void skipSixtyTimes() {
        PictureScript x = Due.played("sa0;j0;");
        Due.is("skip in a ring", x.skip(), 60);
        Due.moments("behind 60 times", x, 20, 0);
        PictureScript y = Due.played("sa0;sa1;sa2;j0;");
        Due.is("skip in a ring of new lines", y.skip(), 1);
        Due.is("the second", y.skip(), 1);
        Due.is("skip in a ring of seen lines", y.skip(), 60);
        Due.is("node behind 60 of 3 each", y.shown(0), 2);
        Due.is("seen", y.count(3), 3);
    }

    private static void back() {
        PictureScript x = Due.played("sa0;f0+;pa0 1;sa3;f1+;ha;sa6;e7;");
        Due.is("back(0)", x.back(0), Due.BAD);
        Due.is("back(-1)", x.back(-1), Due.BAD);
        Due.is("back(21)", x.back(21), Due.BAD);
        Due.is("back(1) at the first", x.back(1), Due.STATE);
        x.go();
        x.go();
        x.go();
        Due.is("back(4)", x.back(4), Due.STATE);
        Due.is("back(20)", x.back(20), Due.STATE);
        Due.is("back(2)", x.back(2), 3);
        Due.is("flags", x.shown(4), 1);
        Due.portraits("turned back", x, 0, 1, Due.NONE, Due.NONE, Due.NONE, Due.NONE);
        Due.moments("behind back(2)", x, 2, 2);
        Due.is("back(2) then", x.back(2), Due.STATE);
        Due.is("back(1)", x.back(1), 0);
        Due.is("flags at the first", x.shown(4), 0);
        Due.moments("at the first", x, 1, 3);
        Due.is("seen stays", x.count(3), 4);
    }

    private static void again() {
        PictureScript x = Due.played("sa0;f0+;sa2;sa3;");
        Due.is("again without turned back ones", x.again(), Due.STATE);
        x.go();
        x.go();
        x.back(2);
        Due.is("again", x.again(), 2);
        Due.is("flags", x.shown(4), 1);
        Due.moments("behind again", x, 2, 1);
        Due.is("again to the last", x.again(), 3);
        Due.is("again behind the last", x.again(), Due.STATE);
        Due.moments("behind all", x, 3, 0);
        Due.is("back over what was turned forth", x.back(2), 0);
    }

    private static void goingOnForgetsTurnedBackOnes() {
        PictureScript x = Due.played("sa0;sa1;c0,2;e3;");
        x.go();
        x.go();
        x.choose(0);
        x.back(3);
        Due.is("go that is possible", x.go(), 1);
        Due.moments("behind go", x, 2, 0);
        Due.is("again behind go", x.again(), Due.STATE);
        x.go();
        x.choose(0);
        x.go();
        x.back(2);
        Due.is("go at a choice", x.go(), Due.STATE);
        Due.moments("behind a go that is refused", x, 3, 2);
        Due.is("choose", x.choose(1), 2);
        Due.moments("behind choose", x, 4, 0);
    }

    private static void twentyMoments() {
        PictureScript x = Due.played("sa0;sa1;sa2;sa3;sa4;sa5;sa6;sa7;j0;");
        for (int i = 2; i <= 20; i++) {
            x.go();
            Due.moments("behind go", x, i, 0);
        }
        Due.is("node of the 20th", x.shown(0), 3);
        x.go();
        Due.moments("behind the 21st", x, 20, 0);
        Due.is("back(20)", x.back(20), Due.STATE);
        Due.is("back(19)", x.back(19), 1);
        Due.moments("at the earliest that is kept", x, 1, 19);
        for (int i = 2; i <= 20; i++) {
            Due.is("again to moment " + i, x.again(), i % 8);
        }
        x.back(5);
        x.go();
        Due.moments("when turned back ones make room", x, 16, 0);
        Due.is("the earliest one stays then", x.back(15), 1);
        x.again();
        x.go();
        x.go();
        Due.moments("behind going on from early ones", x, 4, 0);
    }

    private static void saveAndRestore() {
        PictureScript x = Due.played("sa0;f0+;pa1 3;sa3;f1+;ha;sa6;e7;");
        x.go();
        Due.is("save", x.save(0), 3);
        Due.is("saved", x.count(4), 1);
        x.go();
        Due.is("save in another slot", x.save(2), 6);
        Due.moments("save changes no moments", x, 3, 0);
        x.back(1);
        Due.is("restore", x.restore(2), 6);
        Due.is("flags", x.shown(4), 3);
        Due.portraits("restored", x, Due.NONE, Due.NONE, Due.NONE, Due.NONE, Due.NONE, Due.NONE);
        Due.moments("behind restore", x, 1, 0);
        Due.is("again behind restore", x.again(), Due.STATE);
        Due.is("restore of the other", x.restore(0), 3);
        Due.is("its flags", x.shown(4), 1);
        Due.portraits("restored from the other", x, Due.NONE, Due.NONE, 0, 3, Due.NONE, Due.NONE);
        Due.is("go from what was restored", x.go(), 6);
        Due.is("it stays saved", x.restore(0), 3);
        Due.is("its flags stay", x.shown(4), 1);
        x.begin();
        Due.is("it stays saved when a play begins anew", x.restore(0), 3);
        x.begin();
        Due.is("save in place of another", x.save(0), 0);
        Due.is("saved slots", x.count(4), 2);
        Due.is("restore of what is saved now", x.restore(0), 0);
        Due.is("seen", x.count(3), 3);
    }

    private static void wrongSlots() {
        PictureScript x = Due.played("sa0;");
        for (int slot : new int[] {-1, 3, Integer.MIN_VALUE, Integer.MAX_VALUE}) {
            Due.is("save(" + slot + ")", x.save(slot), Due.BAD);
            Due.is("restore(" + slot + ")", x.restore(slot), Due.BAD);
        }
        for (int slot = 0; slot < 3; slot++) {
            Due.is("restore of nothing", x.restore(slot), Due.STATE);
        }
        x.save(1);
        Due.is("restore(0)", x.restore(0), Due.STATE);
        Due.is("restore(1)", x.restore(1), 0);
        Due.is("restore(2)", x.restore(2), Due.STATE);
    }
}
