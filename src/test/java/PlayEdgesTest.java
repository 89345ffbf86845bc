/** The edges of plays: a test of its own for each sentence of "What nodes do", "Plays" and promises 6 to 13 that names one. */
public final class PlayEdgesTest {
    private static final int NO = Due.NONE;
    private static final String EIGHT_LINES = "sa0;sa1;sa2;sa3;sa4;sa5;sa6;sa7;j0;";

    public static void main(String[] args) {
        Due.holds("A line (\"s\"), a choice (\"c\") and an end (\"e\") are shown.", PlayEdgesTest::whatIsShown);
        Due.holds("it leaves the place where it stood, and whoever stood at this place leaves it", PlayEdgesTest::places);
        Due.holds("\"h\" hides the portrait of a voice, if it stands somewhere", PlayEdgesTest::hiding);
        Due.holds("\"f\" sets a flag (+), or takes it back (-)", PlayEdgesTest::flags);
        Due.holds("\"j\" goes to a node", PlayEdgesTest::jumps);
        Due.holds("\"t\" goes to a node if the flag is set.", PlayEdgesTest::tests);
        Due.holds("All others, and \"t\" if the flag is not set, go to the next node.", PlayEdgesTest::nextNodes);
        Due.holds("A node that does not exist is shown as an end, with the end -2.", PlayEdgesTest::missingNodes);
        Due.holds("It is locked if it has \"?\", and the flag is not set, or \"!\", and the flag is set.", PlayEdgesTest::locks);

        Due.holds("A moment has the node that is shown (it may be one that does not exist), what stands at the places, and the flags.",
                PlayEdgesTest::momentsOfAll);
        Due.holds("there is one moment: from node 0 on, without portraits and flags, nodes are carried out until one is shown.",
                PlayEdgesTest::firstMoment);
        Due.holds("From a line, a play goes on with the next node; from a choice, with the node of an option that is not locked; "
                + "from an end it does not go on.", PlayEdgesTest::goingOn);
        Due.holds("more than 60 nodes would be carried out (that node itself not counted), the play hangs", PlayEdgesTest::sixtyNodes);
        Due.holds("then a node that does not exist is shown, with the number 30 and the end -3", PlayEdgesTest::hangingNode);
        Due.holds("portraits and flags are as they are behind the 60th node.", PlayEdgesTest::behindThe60th);
        Due.holds("At most the latest 20 moments are kept, turned back ones included; when there would be more, the earliest one is "
                + "forgotten.", PlayEdgesTest::twentyMoments);
        Due.holds("Turned back moments are kept until the play goes on from an earlier one, by go(), choose() or skip(); then those "
                + "behind it go.", PlayEdgesTest::turnedBackOnes);
        Due.holds("The nodes that were ever shown since the script was read are seen (also nodes that do not exist, by their numbers)",
                PlayEdgesTest::seenNodes);
        Due.holds("that a play begins anew, is turned back, or restored does not take this back, and what is shown by it is seen, too.",
                PlayEdgesTest::seenStays);

        Due.holds("Begins the play anew; the moments that were kept go.", PlayEdgesTest::begin);
        Due.holds("Goes on from a line.", PlayEdgesTest::go);
        Due.holds("Returns the node that is shown then; STATE if no line is shown.", PlayEdgesTest::goWithoutLine);
        Due.holds("- `option`: its index among the options, from 0", PlayEdgesTest::firstAndLastOption);
        Due.holds("Returns the node that is shown then; BAD if option is negative; STATE if no choice is shown, it has not so many "
                + "options, or the option is locked.", PlayEdgesTest::refusedChoices);
        Due.holds("then goes on again, as long as what is shown then is a line, and was seen already before it was shown just now",
                PlayEdgesTest::skipOverSeenLines);
        Due.holds("(perhaps by this same call)", PlayEdgesTest::skipOverWhatItShows);
        Due.holds("but at most 60 times in all, the first one included.", PlayEdgesTest::sixtySkips);
        Due.holds("Returns how often the play went on; STATE if no line is shown.", PlayEdgesTest::skipWithoutLine);
        Due.holds("- `moments`: how many moments, 1 to 20", PlayEdgesTest::howManyBack);
        Due.holds("Returns the node that is shown then; BAD; STATE if not so many earlier moments are kept.", PlayEdgesTest::tooManyBack);
        Due.holds("Goes on to the next moment of those that were turned back.", PlayEdgesTest::again);
        Due.holds("Returns the node that is shown then; STATE if there is none.", PlayEdgesTest::againWithoutAny);
        Due.holds("Saves the present moment, in place of what was saved there.", PlayEdgesTest::save);
        Due.holds("Returns the node of it; BAD.", PlayEdgesTest::saveInWrongSlots);
        Due.holds("it is the only one that is kept then (turned back ones go, too)", PlayEdgesTest::restoredAlone);
        Due.holds("It stays saved.", PlayEdgesTest::staysSaved);
        Due.holds("Returns the node that is shown then; BAD; STATE if nothing is saved there.", PlayEdgesTest::refusedRestores);
        Due.close("PlayEdgesTest");
    }

    /** Goes on as often as is asked for; answers the node that is shown then. */
    private static int go(PictureScript x, int times) {
        for (int i = 0; i < times; i++) {
            x.go();
        }
        return x.shown(0);
    }

    private static void whatIsShown() {
        Due.is("a line", Due.played("sa0;e1;").shown(1), 0);
        Due.is("a choice", Due.played("c1;e1;").shown(1), 1);
        Due.is("an end", Due.played("e1;sa0;").shown(1), 2);
        Due.is("the first that is shown", Due.played("pa0 0;ha;f0+;t1 0;j5;e1;").shown(0), 5);
    }

    private static void places() {
        PictureScript x = Due.played("pa0 1;sa0;pa2 3;sa0;pa2 0;sa0;pb2 4;sa0;pa0 2;pc1 1;sa0;pb0 0;sa0;");
        Due.portraits("at first", x, 0, 1, NO, NO, NO, NO);
        x.go();
        Due.portraits("at another place", x, NO, NO, NO, NO, 0, 3);
        x.go();
        Due.portraits("at the same place with another face", x, NO, NO, NO, NO, 0, 0);
        x.go();
        Due.portraits("when another takes the place", x, NO, NO, NO, NO, 1, 4);
        x.go();
        Due.portraits("with three voices", x, 0, 2, 2, 1, 1, 4);
        x.go();
        Due.portraits("when one of three goes to the place of another", x, 1, 0, 2, 1, NO, NO);
    }

    private static void hiding() {
        PictureScript x = Due.played("pa0 1;pb1 2;pf2 3;sa0;ha;sa0;ha;hc;sa0;hf;sa0;hb;sa0;");
        x.go();
        Due.portraits("when the first place is hidden", x, NO, NO, 1, 2, 5, 3);
        x.go();
        Due.portraits("when those are hidden who do not stand", x, NO, NO, 1, 2, 5, 3);
        x.go();
        Due.portraits("when the last place is hidden", x, NO, NO, 1, 2, NO, NO);
        x.go();
        Due.nobody("when all are hidden", x);
        Due.nobody("when nobody was there to hide", Due.played("ha;hb;hf;e1;"));
    }

    private static void flags() {
        PictureScript x = Due.played("f0+;f5+;sa0;f5+;sa0;f3-;sa0;f0-;sa0;f5-;f5-;sa0;");
        Due.is("0 and 5 set", x.shown(4), 33);
        x.go();
        Due.is("5 set once more", x.shown(4), 33);
        x.go();
        Due.is("3 taken back, which is not set", x.shown(4), 33);
        x.go();
        Due.is("0 taken back", x.shown(4), 32);
        x.go();
        Due.is("5 taken back, twice", x.shown(4), 0);
        Due.is("all set", Due.played("f0+;f1+;f2+;f3+;f4+;f5+;e1;").shown(4), 63);
    }

    private static void jumps() {
        Due.is("to the next node", Due.played("j1;e1;e2;").shown(0), 1);
        Due.is("over a node", Due.played("j2;e1;e2;").shown(0), 2);
        Due.is("back to node 0", Due.played("t0 3;f0+;j0;e1;").shown(0), 3);
        Due.is("to itself", Due.played("j0;").shown(0), 30);
        Due.is("to the last of 29 nodes", Due.played("j28;" + "e1;".repeat(28)).shown(3), 1);
        Due.is("behind the last of 29 nodes", Due.played("j29;" + "e1;".repeat(28)).shown(3), -2);
    }

    private static void tests() {
        Due.is("with flag 0 set", Due.played("f0+;t0 3;e1;e2;").shown(0), 3);
        Due.is("with flag 5 set", Due.played("f5+;t5 3;e1;e2;").shown(0), 3);
        Due.is("with another flag set", Due.played("f1+;t0 3;e1;e2;").shown(0), 2);
        Due.is("with the flag taken back", Due.played("f0+;f0-;t0 4;e1;e2;").shown(0), 3);
        Due.is("to a node that does not exist", Due.played("f0+;t0 29;e1;").shown(0), 29);
    }

    private static void nextNodes() {
        Due.is("behind p", Due.played("pa0 0;e1;").shown(0), 1);
        Due.is("behind h", Due.played("ha;e1;").shown(0), 1);
        Due.is("behind f+", Due.played("f0+;e1;").shown(0), 1);
        Due.is("behind f-", Due.played("f0-;e1;").shown(0), 1);
        Due.is("behind t", Due.played("t0 0;e1;").shown(0), 1);
        Due.is("behind s", go(Due.played("sa0;e1;"), 1), 1);
    }

    private static void missingNodes() {
        for (String text : new String[] {"", "ha;", "j1;", "j17;", "j29;", "f0+;t0 9;", "ha;".repeat(29)}) {
            PictureScript x = Due.played(text);
            Due.is("kind of what is shown in \"" + text + "\"", x.shown(1), 2);
            Due.is("end that is shown in \"" + text + "\"", x.shown(3), -2);
            Due.is("voice", x.shown(2), NO);
            Due.is("open options", x.shown(5), NO);
        }
        Due.is("behind one node", Due.played("ha;").shown(0), 1);
        Due.is("behind 29 nodes", Due.played("ha;".repeat(29)).shown(0), 29);
        Due.is("behind a line", go(Due.played("sa0;"), 1), 1);
        Due.is("behind a choice", Due.played("c1;").choose(0), 1);
    }

    private static void locks() {
        for (int flag = 0; flag <= 5; flag++) {
            String options = "c0?" + flag + ",0!" + flag + ",0;";
            Due.is("without flag " + flag, Due.played(options).shown(5), 6);
            Due.is("with flag " + flag, Due.played("f" + flag + "+;" + options).shown(5), 5);
            Due.is("with another flag", Due.played("f" + (flag + 1) % 6 + "+;" + options).shown(5), 6);
            Due.is("with the flag taken back", Due.played("f" + flag + "+;f" + flag + "-;" + options).shown(5), 6);
        }
        PictureScript x = Due.played("c0?0,1!0,2;e1;");
        Due.is("choose what needs a flag", x.choose(0), Due.STATE);
        Due.is("choose what a flag locks", x.choose(1), 1);
        PictureScript y = Due.played("f0+;c2?0,2!0;e1;");
        Due.is("choose what the flag locks", y.choose(1), Due.STATE);
        Due.is("choose what needs the flag", y.choose(0), 2);
    }

    private static void momentsOfAll() {
        PictureScript x = Due.played("f0+;pa0 1;c7,3;f1+;pb0 2;sb1;e1;f2+;ha;j29;");
        x.choose(0);
        Due.is("a node that does not exist", x.shown(0), 29);
        Due.is("flags there", x.shown(4), 5);
        Due.nobody("there", x);
        Due.is("back", x.back(1), 2);
        Due.is("flags as they were", x.shown(4), 1);
        Due.portraits("as they were", x, 0, 1, NO, NO, NO, NO);
        Due.is("again", x.again(), 29);
        Due.is("flags as they were there", x.shown(4), 5);
        Due.nobody("as it was there", x);
        x.back(1);
        Due.is("the other way", x.choose(1), 5);
        Due.is("flags of the other way", x.shown(4), 3);
        Due.portraits("of the other way", x, 1, 2, NO, NO, NO, NO);
    }

    private static void firstMoment() {
        PictureScript x = Due.played("t0 5;t1 6;sa0;f0+;j0;e1;e2;");
        x.go();
        Due.is("with flag 0", x.shown(0), 5);
        Due.is("begin", x.begin(), 2);
        Due.is("flags when the play begins anew", x.shown(4), 0);
        x.go();
        Due.is("read", x.read(), 7);
        Due.is("node when the script is read", x.shown(0), 2);
        Due.is("flags when the script is read", x.shown(4), 0);
        PictureScript y = Due.played("sa0;pa0 0;pb1 0;pc2 0;sa1;");
        y.go();
        y.begin();
        Due.nobody("when the play begins anew", y);
        Due.moments("when the play begins anew", y, 1, 0);
        y.go();
        y.read();
        Due.nobody("when the script is read", y);
        Due.moments("when the script is read", y, 1, 0);
    }

    private static void goingOn() {
        PictureScript x = Due.played("sa0;c3?0,4;e1;e2;e3;");
        Due.is("go from a line", x.go(), 1);
        Due.is("choose a locked option", x.choose(0), Due.STATE);
        Due.is("choose an open one", x.choose(1), 4);
        Due.is("go from an end", x.go(), Due.STATE);
        Due.is("choose at an end", x.choose(0), Due.STATE);
        Due.is("skip at an end", x.skip(), Due.STATE);
        Due.is("the end stays", x.shown(0), 4);
        Due.moments("at the end", x, 3, 0);
    }

    private static void sixtyNodes() {
        for (int n = 57; n <= 62; n++) {
            int due = n <= 60 ? 5 : -3;
            PictureScript x = Due.played(Rings.carriedOut("", 0, n));
            Due.is("end behind " + n + " nodes at the beginning", x.shown(3), due);
            Due.is("choicesTo that end", x.choicesTo(due), 0);
            PictureScript line = Due.played(Rings.carriedOut("sa0;", 1, n));
            line.go();
            Due.is("end behind " + n + " nodes from a line", line.shown(3), due);
            PictureScript skipped = Due.played(Rings.carriedOut("sa0;", 1, n));
            skipped.skip();
            Due.is("end behind " + n + " nodes by skip", skipped.shown(3), due);
            PictureScript choice = Due.played(Rings.carriedOut("c1;", 1, n));
            choice.choose(0);
            Due.is("end behind " + n + " nodes from a choice", choice.shown(3), due);
            Due.is("choicesTo that end", choice.choicesTo(due), 1);
        }
    }

    private static void hangingNode() {
        PictureScript x = Due.played("j0;");
        Due.is("node", x.shown(0), 30);
        Due.is("kind", x.shown(1), 2);
        Due.is("voice", x.shown(2), NO);
        Due.is("end", x.shown(3), -3);
        Due.is("open options", x.shown(5), NO);
        Due.is("begin", x.begin(), 30);
        Due.is("node(30, 0)", x.node(30, 0), Due.BAD);
        PictureScript line = Due.played("sa0;j1;");
        Due.is("go", line.go(), 30);
        PictureScript choice = Due.played("c1;j1;");
        Due.is("choose", choice.choose(0), 30);
        Due.is("the node behind 29 is another", Due.played("j29;").shown(3), -2);
    }

    private static void behindThe60th() {
        // 60 are 8 rounds of 7 and 4 more: the flags behind the 59th, 60th and 61st are 7, 6 and 4.
        PictureScript flags = Due.played("f0+;f1+;f2+;f0-;f1-;f2-;j0;");
        Due.is("node", flags.shown(0), 30);
        Due.is("flags", flags.shown(4), 6);
        PictureScript portraits = Due.played("sa0;pa0 0;pa1 1;pa2 2;pb1 3;pb0 4;ha;j1;");
        Due.is("go", portraits.go(), 30);
        Due.portraits("behind the 60th node", portraits, NO, NO, 1, 3, 0, 2);
        PictureScript taken = Due.played("f3+;sa0;f3-;j3;");
        taken.go();
        Due.is("what was taken back on the way", taken.shown(4), 0);
    }

    private static void twentyMoments() {
        PictureScript x = Due.played(EIGHT_LINES);
        go(x, 18);
        Due.moments("behind 18 times", x, 19, 0);
        x.go();
        Due.moments("behind 19 times", x, 20, 0);
        Due.is("the first is kept", x.back(19), 0);
        go(x, 19);
        x.go();
        Due.moments("behind 20 times", x, 20, 0);
        Due.is("the second is the earliest", x.back(19), 1);
        Due.moments("at the earliest", x, 1, 19);
        for (int node = 2; node <= 20; node++) {
            Due.is("again", x.again(), node % 8);
        }
        x.back(7);
        Due.moments("with 7 that were turned back", x, 13, 7);
        x.go();
        Due.moments("when they have gone", x, 14, 0);
        Due.is("nothing more was forgotten", x.back(13), 1);
        PictureScript y = Due.played(EIGHT_LINES);
        go(y, 50);
        Due.moments("behind 50 times", y, 20, 0);
        Due.is("the 32nd is the earliest", y.back(19), 31 % 8);
        PictureScript choice = Due.played("c1,0;j0;");
        for (int i = 0; i < 30; i++) {
            choice.choose(i % 2);
        }
        Due.moments("behind 30 choices", choice, 20, 0);
        PictureScript skipped = Due.played("sa0;j0;");
        skipped.skip();
        Due.moments("behind skip", skipped, 20, 0);
    }

    private static void turnedBackOnes() {
        PictureScript x = Due.played("sa0;sa1;sa2;c0,3;");
        go(x, 3);
        x.back(3);
        x.again();
        x.save(0);
        x.choose(0);
        Due.moments("behind calls that do not go on", x, 2, 2);
        x.go();
        Due.moments("behind go", x, 3, 0);
        Due.is("again behind go", x.again(), Due.STATE);
        x.go();
        x.choose(1);
        x.choose(1);
        x.back(2);
        x.go();
        x.skip();
        Due.moments("behind go and skip at a choice", x, 4, 2);
        x.choose(0);
        Due.moments("behind choose", x, 5, 0);
        Due.is("again behind choose", x.again(), Due.STATE);
        x.go();
        x.go();
        x.back(2);
        Due.moments("with two that were turned back", x, 5, 2);
        Due.is("skip", x.skip(), 3);
        Due.moments("behind skip", x, 8, 0);
        Due.is("again behind skip", x.again(), Due.STATE);
        Due.is("the earlier ones stay", x.back(7), 0);
    }

    private static void seenNodes() {
        PictureScript x = Due.played("c1,8,29,8;sa1;j1;");
        Due.is("seen at first", x.count(3), 1);
        int[] options = {1, 3, 2, 0};
        int[] due = {2, 2, 3, 4};
        for (int i = 0; i < 4; i++) {
            x.choose(options[i]);
            Due.is("seen behind choice " + options[i], x.count(3), due[i]);
            x.begin();
        }
        PictureScript hanging = Due.played("sa0;j1;");
        hanging.go();
        Due.is("seen with the node of a play that hangs", hanging.count(3), 2);
        Due.is("nodes that are carried out are not seen", Due.played("ha;ha;e1;").count(3), 1);
        PictureScript ring = Due.played(EIGHT_LINES);
        go(ring, 40);
        Due.is("seen, though their moments are forgotten", ring.count(3), 8);
    }

    private static void seenStays() {
        PictureScript x = Due.played("sa0;sa1;f0+;sa3;sa4;");
        go(x, 2);
        x.save(0);
        Due.is("seen behind two times", x.count(3), 3);
        x.back(2);
        Due.is("seen when turned back", x.count(3), 3);
        Due.is("skip over what was turned back, to what is new", x.skip(), 3);
        Due.is("seen then", x.count(3), 4);
        x.begin();
        Due.is("seen when begun anew", x.count(3), 4);
        Due.is("skip over what was seen before, to what is new", x.skip(), 4);
        Due.is("seen then", x.count(3), 5);
        x.restore(0);
        Due.is("seen when restored", x.count(3), 5);
        Due.is("skip over what was seen before", x.skip(), 2);
        Due.is("seen at last", x.count(3), 5);
    }

    private static void begin() {
        PictureScript x = Due.played("sa0;f0+;pa0 0;sa1;sa2;");
        Due.is("begin at the beginning", x.begin(), 0);
        Due.moments("at the beginning", x, 1, 0);
        go(x, 2);
        x.save(1);
        x.back(1);
        Due.is("begin", x.begin(), 0);
        Due.moments("behind begin", x, 1, 0);
        Due.is("back", x.back(1), Due.STATE);
        Due.is("again", x.again(), Due.STATE);
        Due.is("flags", x.shown(4), 0);
        Due.nobody("behind begin", x);
        Due.is("what is saved stays", x.restore(1), 4);
        PictureScript full = Due.played(EIGHT_LINES);
        go(full, 25);
        Due.is("begin with 20 moments", full.begin(), 0);
        Due.moments("then", full, 1, 0);
        Due.is("begin of the empty script", new PictureScript().begin(), 0);
    }

    private static void go() {
        PictureScript x = Due.played("sa0;sa1;");
        Due.is("go", x.go(), 1);
        Due.is("go behind the last node", x.go(), 2);
        Due.is("end there", x.shown(3), -2);
        PictureScript last = Due.played("ha;".repeat(28) + "sa0;");
        Due.is("go from the last of 29 nodes", last.go(), 29);
        Due.is("end there", last.shown(3), -2);
    }

    private static void goWithoutLine() {
        for (String text : new String[] {"", "c0;", "e1;", "j5;", "j0;"}) {
            PictureScript x = Due.played(text);
            Due.is("go in \"" + text + "\"", x.go(), Due.STATE);
            Due.moments("behind it", x, 1, 0);
        }
    }

    private static void firstAndLastOption() {
        int[] due = {4, 3, 2, 1};
        for (int option = 0; option < 4; option++) {
            Due.is("choose(" + option + ")", Due.played("c4,3,2,1;").choose(option), due[option]);
        }
        Due.is("the only option", Due.played("c0;").choose(0), 0);
    }

    private static void refusedChoices() {
        for (String text : new String[] {"", "sa0;", "e1;", "j5;", "j0;", "c0;", "c0?0;"}) {
            PictureScript x = Due.played(text);
            Due.is("choose(-1) in \"" + text + "\"", x.choose(-1), Due.BAD);
            Due.is("choose(least) in \"" + text + "\"", x.choose(Integer.MIN_VALUE), Due.BAD);
            Due.is("choose(1) in \"" + text + "\"", x.choose(1), Due.STATE);
            Due.is("choose(greatest) in \"" + text + "\"", x.choose(Integer.MAX_VALUE), Due.STATE);
            Due.is("choose(0) in \"" + text + "\"", x.choose(0), text.equals("c0;") ? 0 : Due.STATE);
        }
        PictureScript four = Due.played("c1,2,3?0,4;c0;");
        Due.is("choose(4) of four", four.choose(4), Due.STATE);
        Due.is("choose(5) of four", four.choose(5), Due.STATE);
        Due.is("choose of a locked one", four.choose(2), Due.STATE);
        Due.moments("behind refused choices", four, 1, 0);
        // The next choice has options in the rows behind those of this one.
        PictureScript short1 = Due.played("c1;c0,0,0,0;");
        Due.is("an option of the next choice", short1.choose(4), Due.STATE);
    }

    private static void skipOverSeenLines() {
        PictureScript x = Due.played("sa0;sa1;c3;sa3;e1;");
        Due.is("skip to a line that is new", x.skip(), 1);
        Due.is("skip to a choice that is new", x.skip(), 1);
        x.begin();
        Due.is("skip to a choice that is seen", x.skip(), 2);
        Due.is("it is shown", x.shown(0), 2);
        x.choose(0);
        Due.is("skip to an end that is new", x.skip(), 1);
        x.back(1);
        Due.is("skip to an end that is seen", x.skip(), 1);
        Due.is("the end is shown", x.shown(0), 4);
        PictureScript hanging = Due.played("sa0;sa1;j2;");
        go(hanging, 2);
        hanging.begin();
        Due.is("skip into a play that hangs", hanging.skip(), 2);
        Due.is("where it is", hanging.shown(0), 30);
    }

    private static void skipOverWhatItShows() {
        PictureScript x = Due.played("sa0;j0;");
        Due.is("a line that follows itself", x.skip(), 60);
        // Two lines in turn; the second is new only the first time.
        PictureScript y = Due.played("sa0;sa1;j0;");
        Due.is("to the second line", y.skip(), 1);
        Due.is("round by round", y.skip(), 60);
        Due.is("where it ends", y.shown(0), 1);
    }

    private static void sixtySkips() {
        for (int n = 55; n <= 62; n++) {
            PictureScript x = Due.played(Rings.lines(n));
            go(x, n - 1);
            Due.is("the last of " + n + " lines", x.shown(1), 0);
            x.go();
            Due.is("the end behind " + n + " lines", x.shown(3), 5);
            x.begin();
            Due.is("skip over " + n + " seen lines", x.skip(), Math.min(n, 60));
            Due.is("kind of what is shown then", x.shown(1), n <= 60 ? 2 : 0);
            Due.moments("then", x, 20, 0);
            if (n > 60) {
                Due.is("skip on", x.skip(), n - 60);
            }
        }
    }

    private static void skipWithoutLine() {
        for (String text : new String[] {"", "c0;", "e1;", "j5;", "j0;"}) {
            PictureScript x = Due.played(text);
            Due.is("skip in \"" + text + "\"", x.skip(), Due.STATE);
            Due.moments("behind it", x, 1, 0);
        }
        PictureScript x = Due.played("sa0;");
        Due.is("skip behind the last node", x.skip(), 1);
        Due.is("end there", x.shown(3), -2);
        Due.is("skip there", x.skip(), Due.STATE);
    }

    private static void howManyBack() {
        PictureScript x = Due.played(EIGHT_LINES);
        for (int moments : new int[] {0, -1, 21, 22, Integer.MIN_VALUE, Integer.MAX_VALUE}) {
            Due.is("back(" + moments + ") with one moment", x.back(moments), Due.BAD);
        }
        Due.is("back(20) with one moment", x.back(20), Due.STATE);
        go(x, 19);
        Due.is("back(1)", x.back(1), 18 % 8);
        x.again();
        Due.is("back(19)", x.back(19), 0);
        for (int i = 0; i < 19; i++) {
            x.again();
        }
        for (int moments : new int[] {0, -1, 21, 22, Integer.MIN_VALUE, Integer.MAX_VALUE}) {
            Due.is("back(" + moments + ") with 20 moments", x.back(moments), Due.BAD);
        }
        Due.moments("behind bad ones", x, 20, 0);
    }

    private static void tooManyBack() {
        PictureScript x = Due.played(EIGHT_LINES);
        for (int kept = 1; kept <= 20; kept++) {
            Due.is("back(" + kept + ") with so many kept", x.back(kept), Due.STATE);
            Due.moments("behind it", x, kept, 0);
            x.go();
        }
        Due.is("back(20) with 20 kept", x.back(20), Due.STATE);
        Due.is("back(12)", x.back(12), 0);
        Due.is("back(8) with 8 kept up to the present one", x.back(8), Due.STATE);
        Due.is("back(7)", x.back(7), 1);
        Due.is("back(1) at the earliest", x.back(1), Due.STATE);
    }

    private static void again() {
        PictureScript x = Due.played("sa0;f0+;sa2;f1+;sa4;");
        go(x, 2);
        x.back(2);
        Due.is("again", x.again(), 2);
        Due.is("flags", x.shown(4), 1);
        Due.moments("behind again", x, 2, 1);
        Due.is("again, to the last", x.again(), 4);
        Due.is("flags of the last", x.shown(4), 3);
        Due.moments("behind all", x, 3, 0);
        Due.is("back and again are the same way", x.back(1), 2);
    }

    private static void againWithoutAny() {
        PictureScript x = Due.played("sa0;sa1;");
        Due.is("again at the beginning", x.again(), Due.STATE);
        x.go();
        Due.is("again behind go", x.again(), Due.STATE);
        x.back(1);
        x.again();
        Due.is("again behind all", x.again(), Due.STATE);
        Due.moments("behind that", x, 2, 0);
        PictureScript full = Due.played(EIGHT_LINES);
        go(full, 30);
        Due.is("again with 20 moments", full.again(), Due.STATE);
        Due.is("node then", full.shown(0), 30 % 8);
    }

    private static void save() {
        PictureScript x = Due.played("f0+;pa0 1;sa0;f1+;pb0 2;sa0;f2+;pc0 3;sa0;j29;");
        Due.is("save(0)", x.save(0), 2);
        x.go();
        Due.is("save(2)", x.save(2), 5);
        Due.is("saved", x.count(4), 2);
        x.go();
        Due.is("save(0) in place of another", x.save(0), 8);
        Due.is("saved then", x.count(4), 2);
        Due.moments("save changes no moments", x, 3, 0);
        Due.is("restore(2)", x.restore(2), 5);
        Due.is("flags of 2", x.shown(4), 3);
        Due.portraits("of 2", x, 1, 2, NO, NO, NO, NO);
        Due.is("restore(0)", x.restore(0), 8);
        Due.is("flags of 0", x.shown(4), 7);
        Due.portraits("of 0", x, 2, 3, NO, NO, NO, NO);
        x.go();
        Due.is("save of a node that does not exist", x.save(1), 29);
        Due.is("all saved", x.count(4), 3);
        Due.is("save in a play that hangs", Due.played("j0;").save(0), 30);
    }

    private static void saveInWrongSlots() {
        PictureScript x = Due.played("sa0;");
        for (int slot : new int[] {-1, 3, 4, Integer.MIN_VALUE, Integer.MAX_VALUE}) {
            Due.is("save(" + slot + ")", x.save(slot), Due.BAD);
        }
        Due.is("saved", x.count(4), 0);
        for (int slot = 0; slot < 3; slot++) {
            Due.is("save(" + slot + ")", x.save(slot), 0);
            Due.is("saved then", x.count(4), slot + 1);
        }
    }

    private static void restoredAlone() {
        PictureScript x = Due.played(EIGHT_LINES);
        go(x, 3);
        x.save(0);
        go(x, 30);
        x.back(4);
        Due.moments("before", x, 16, 4);
        Due.is("restore", x.restore(0), 3);
        Due.moments("behind restore", x, 1, 0);
        Due.is("back", x.back(1), Due.STATE);
        Due.is("again", x.again(), Due.STATE);
        Due.is("restore once more", x.restore(0), 3);
        Due.moments("behind it", x, 1, 0);
        go(x, 19);
        Due.moments("behind 19 times more", x, 20, 0);
        Due.is("the restored one is kept", x.back(19), 3);
    }

    private static void staysSaved() {
        PictureScript x = Due.played("f0+;pa0 1;sa0;f1+;pb0 2;sa0;f0-;ha;j1;");
        x.save(1);
        for (int i = 0; i < 3; i++) {
            go(x, 25);
            Due.is("restore", x.restore(1), 2);
            Due.is("saved", x.count(4), 1);
            Due.is("flags", x.shown(4), 1);
            Due.portraits("restored", x, 0, 1, NO, NO, NO, NO);
        }
        x.begin();
        Due.is("restore behind begin", x.restore(1), 2);
    }

    private static void refusedRestores() {
        PictureScript x = Due.played("sa0;sa1;");
        x.go();
        for (int slot : new int[] {-1, 3, 4, Integer.MIN_VALUE, Integer.MAX_VALUE}) {
            Due.is("restore(" + slot + ")", x.restore(slot), Due.BAD);
        }
        for (int slot = 0; slot < 3; slot++) {
            Due.is("restore(" + slot + ") of nothing", x.restore(slot), Due.STATE);
        }
        Due.moments("behind refused ones", x, 2, 0);
        x.save(2);
        Due.is("restore(1) of nothing", x.restore(1), Due.STATE);
        Due.is("restore(2)", x.restore(2), 1);
    }
}
