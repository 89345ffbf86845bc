import java.util.List;

/** The edges of texts and scripts: a test of its own for each sentence of "Scripts" and promises 1 to 5 that names one. */
public final class ScriptEdgesTest {
    private static final int NONE = Due.NONE;
    private static final String ALL_KINDS = "sa12;pb2 4;hc;f5+;f0-;j29;t1 9;c1?0,2!5,3;e9;";

    public static void main(String[] args) {
        Due.holds("There is a text of at most 100 bytes", ScriptEdgesTest::hundredBytes);
        Due.holds("A voice is a letter from a to f (voices are numbered from 0 to 5 so)", ScriptEdgesTest::voices);
        Due.holds("a line a number of one or two digits", ScriptEdgesTest::lines);
        Due.holds("a place is a digit from 0 to 2", ScriptEdgesTest::places);
        Due.holds("a face a digit from 0 to 4", ScriptEdgesTest::faces);
        Due.holds("a flag a digit from 0 to 5", ScriptEdgesTest::flags);
        Due.holds("an end a digit", ScriptEdgesTest::ends);
        Due.holds("A node, where it is named, is a number of one or two digits, at most 29.", ScriptEdgesTest::namedNodes);
        Due.holds("Numbers have as many digits as there are, but a third digit cannot stand.", ScriptEdgesTest::thirdDigits);
        Due.holds("Blanks (byte 32) can stand before and after letters, numbers, \"+\", \"-\", \"?\", \"!\", \",\" and \";\"",
                ScriptEdgesTest::blanks);
        Due.holds("a text of blanks alone is the empty script", ScriptEdgesTest::blanksAlone);
        Due.holds("between two digits that belong to different numbers at least one must stand", ScriptEdgesTest::oneBlank);
        Due.holds("where a number of one digit that is followed at once by a digit is a fault at that digit.",
                ScriptEdgesTest::secondDigits);
        Due.holds("A choice has at most 4 options", ScriptEdgesTest::fourOptions);
        Due.holds("a script has at most 29 nodes, numbered from 0.", ScriptEdgesTest::twentyNineNodes);
        Due.holds("The fault of a text is the index, from 0, of the first byte that cannot stand at its place",
                ScriptEdgesTest::firstFault);
        Due.holds("for a node above 29 by its two digits the first of them, whatever follows", ScriptEdgesTest::nodesAbove29);
        Due.holds("for a fifth option, behind its comma, its first digit", ScriptEdgesTest::fifthOption);
        Due.holds("for a 30th node its letter", ScriptEdgesTest::thirtiethNode);
        Due.holds("or the length of the text if it ends too early.", ScriptEdgesTest::endsTooEarly);

        Due.holds("Creates a play of the empty script, with an empty text.", ScriptEdgesTest::newObject);
        Due.holds("- `letter`: the byte, 0 to 127", ScriptEdgesTest::letters);
        Due.holds("Returns the length of the text; BAD; FULL if the text has 100 bytes.", ScriptEdgesTest::fullText);
        Due.holds("Empties the text.", ScriptEdgesTest::emptied);
        Due.holds("Returns the length that it had.", ScriptEdgesTest::hadLength);
        Due.holds("Returns the index; NONE if there is no fault.", ScriptEdgesTest::noFault);
        Due.holds("Reads the script of the text, which stays;", ScriptEdgesTest::textStays);
        Due.holds("the play begins anew, what is saved is forgotten, and nothing is seen but what is shown.",
                ScriptEdgesTest::readBeginsAnew);
        Due.holds("Returns the number of its nodes; STATE if the text has a fault.", ScriptEdgesTest::readNodes);
        Due.close("ScriptEdgesTest");
    }

    private static void number(String text, int node, int what, int due) {
        Due.is("node(" + node + ", " + what + ") of \"" + text + "\"", Due.played(text).node(node, what), due);
    }

    private static void hundredBytes() {
        PictureScript x = Due.withText("sa1;".repeat(24) + "sa2");
        Due.is("fault of 99 bytes", x.fault(), 99);
        Due.is("type of byte 100", x.type(';'), 100);
        Due.is("fault of 100 bytes", x.fault(), NONE);
        Due.is("type of byte 101", x.type(';'), Due.FULL);
        Due.is("length", x.count(6), 100);
        Due.is("read of 100 bytes", x.read(), 25);
        Due.is("the last number of 100 bytes", x.node(24, 2), 2);
    }

    private static void voices() {
        for (int voice = 0; voice < 6; voice++) {
            char letter = (char) ('a' + voice);
            number("s" + letter + "1;", 0, 1, voice);
            number("p" + letter + "0 0;", 0, 1, voice);
            number("h" + letter + ";", 0, 1, voice);
        }
        for (char letter : "`gzAF@05;".toCharArray()) {
            Due.fault("s" + letter + "1;", 1);
            Due.fault("p" + letter + "0 0;", 1);
            Due.fault("h" + letter + ";", 1);
        }
    }

    private static void lines() {
        number("sa0;", 0, 2, 0);
        number("sa9;", 0, 2, 9);
        number("sa10;", 0, 2, 10);
        number("sa99;", 0, 2, 99);
        number("sa00;", 0, 2, 0);
        number("sa07;", 0, 2, 7);
        Due.fault("sa;", 2);
        Due.fault("sa/;", 2);
        Due.fault("sa:;", 2);
        Due.fault("sa100;", 4);
        Due.fault("sa999;", 4);
    }

    private static void places() {
        for (int place = 0; place <= 2; place++) {
            number("pa" + place + " 0;", 0, 2, place);
        }
        for (char sign : "/3459:a+".toCharArray()) {
            Due.fault("pa" + sign + " 0;", 2);
        }
    }

    private static void faces() {
        for (int face = 0; face <= 4; face++) {
            number("pa0 " + face + ";", 0, 3, face);
        }
        for (char sign : "/569:a+".toCharArray()) {
            Due.fault("pa0 " + sign + ";", 4);
        }
    }

    private static void flags() {
        for (int flag = 0; flag <= 5; flag++) {
            number("f" + flag + "+;", 0, 1, flag);
            number("t" + flag + " 0;e0;", 0, 1, flag);
            Due.is("flag of ?", Due.played("c0?" + flag + ";").option(0, 0, 2), flag);
            Due.is("flag of !", Due.played("c0!" + flag + ";").option(0, 0, 2), flag);
        }
        for (char sign : "/6789:a;,".toCharArray()) {
            Due.fault("f" + sign + "+;", 1);
            Due.fault("t" + sign + " 0;", 1);
            Due.fault("c0?" + sign + ";", 3);
            Due.fault("c0!" + sign + ";", 3);
        }
    }

    private static void ends() {
        for (int end = 0; end <= 9; end++) {
            number("e" + end + ";", 0, 1, end);
        }
        for (char sign : "/:-a;".toCharArray()) {
            Due.fault("e" + sign + ";", 1);
        }
        Due.fault("e10;", 2);
    }

    private static void namedNodes() {
        for (String node : List.of("0", "9", "00", "05", "10", "19", "20", "29")) {
            int due = Integer.parseInt(node);
            number("j" + node + ";", 0, 1, due);
            number("t0 " + node + ";", 0, 2, due);
            PictureScript x = Due.played("c" + node + ",0," + node + "?1;");
            Due.is("the first option, to " + node, x.option(0, 0, 0), due);
            Due.is("the last option, to " + node, x.option(0, 2, 0), due);
        }
        for (String node : List.of("30", "31", "39", "40", "99")) {
            Due.fault("j" + node + ";", 1);
            Due.fault("t0 " + node + ";", 3);
            Due.fault("c" + node + ";", 1);
            Due.fault("c0," + node + "?1;", 3);
        }
        for (char sign : "/:-a;".toCharArray()) {
            Due.fault("j" + sign + ";", 1);
            Due.fault("t0 " + sign + ";", 3);
            Due.fault("c" + sign + ";", 1);
        }
    }

    private static void thirdDigits() {
        number("sa12;", 0, 2, 12);
        number("j12;", 0, 1, 12);
        number("t3 12;", 0, 2, 12);
        Due.is("a target of two digits", Due.played("c12;").option(0, 0, 0), 12);
        Due.fault("sa123;", 4);
        Due.fault("sa000;", 4);
        Due.fault("sa0001;", 4);
        Due.fault("j012;", 3);
        Due.fault("j000;", 3);
        Due.fault("t3 012;", 5);
        Due.fault("t3 291;", 5);
        Due.fault("c012;", 3);
        Due.fault("c0,012;", 5);
        Due.fault("sa1 2;", 4);
        Due.fault("j1 2;", 3);
    }

    private static void blanks() {
        String text = "  s a  12 ; p b 2  4 ; h c ; f 5 + ; f 0 - ; j 29 ; t 1  9 ; c 1 ? 0 , 2 ! 5  , 3 ; e 9 ;  ";
        PictureScript x = Due.played(text);
        PictureScript without = Due.played(ALL_KINDS);
        Due.is("nodes", x.count(0), without.count(0));
        for (int node = 0; node < 9; node++) {
            for (int what = 0; what < 4; what++) {
                Due.is("node(" + node + ", " + what + ") with blanks", x.node(node, what), without.node(node, what));
            }
        }
        for (int option = 0; option < 3; option++) {
            for (int what = 0; what < 3; what++) {
                Due.is("option(7, " + option + ", " + what + ") with blanks", x.option(7, option, what),
                        without.option(7, option, what));
            }
        }
        for (int sign = 0; sign < 128; sign++) {
            if (sign < 32 || sign == 33 || sign == 127) {
                Due.fault((char) sign + "e1;", 0);
                Due.fault("e" + (char) sign + "1;", 1);
                Due.fault("e1" + (char) sign + ";", 2);
                Due.fault("e1;" + (char) sign, 3);
            }
        }
    }

    private static void blanksAlone() {
        for (int blanks : new int[] {0, 1, 2, 99, 100}) {
            PictureScript x = Due.played("f0+;sa1;e1;");
            Due.write(x, " ".repeat(blanks));
            Due.is("fault of " + blanks + " blanks", x.fault(), NONE);
            Due.is("read of " + blanks + " blanks", x.read(), 0);
            Due.is("nodes then", x.count(0), 0);
            Due.is("node(0, 0) then", x.node(0, 0), Due.BAD);
            Due.is("node that is shown then", x.shown(0), 0);
            Due.is("end that is shown then", x.shown(3), -2);
        }
        Due.fault(" ".repeat(99) + ";", 99);
    }

    private static void oneBlank() {
        Due.good("t0 5;");
        Due.good("t0 12;");
        Due.good("t0    5;");
        Due.good("pa0 3;");
        Due.good("pa2    4;");
        Due.fault("t05;", 2);
        Due.fault("t012;", 2);
        Due.fault("pa03;", 3);
        Due.fault("t0,5;", 2);
        Due.fault("pa0;3;", 3);
        Due.good("c1?0,2!5,3;");
    }

    private static void secondDigits() {
        Due.fault("pa00;", 3);
        Due.fault("pa0 00;", 5);
        Due.fault("pa0 4444;", 5);
        Due.fault("pa2 19;", 5);
        Due.fault("f00+;", 2);
        Due.fault("f59-;", 2);
        Due.fault("t00 1;", 2);
        Due.fault("t5555;", 2);
        Due.fault("c1?00;", 4);
        Due.fault("c1!59,2;", 4);
        Due.fault("e00;", 2);
        Due.fault("e99", 2);
        // A digit that cannot stand is itself the fault.
        Due.fault("f60+;", 1);
        Due.fault("pa30 0;", 2);
    }

    private static void fourOptions() {
        PictureScript x = Due.played("c3,2,1,0;");
        Due.is("number of options", x.node(0, 1), 4);
        Due.is("the fourth option", x.option(0, 3, 0), 0);
        Due.is("the fifth option", x.option(0, 4, 0), NONE);
        PictureScript one = Due.played("c7;");
        Due.is("number of options of one", one.node(0, 1), 1);
        Due.good("c0?1,1!2,2,3?5;");
        Due.fault("c0,1,2,3,4;", 9);
        Due.fault("c0?1,1!2,2,3?5,4;", 15);
        Due.fault("c;", 1);
        Due.fault("c  ;", 3);
    }

    private static void twentyNineNodes() {
        PictureScript x = Due.played("e9;" + "ha;".repeat(27) + "e1;");
        Due.is("nodes", x.count(0), 29);
        Due.is("the first", x.node(0, 1), 9);
        Due.is("the last", x.node(28, 1), 1);
        Due.is("one behind it", x.node(29, 0), Due.BAD);
        Due.good("ha;".repeat(29) + " ".repeat(13));
        Due.fault("ha;".repeat(30), 87);
        Due.fault("ha;".repeat(33), 87);
    }

    private static void firstFault() {
        Due.fault("x", 0);
        Due.fault(";", 0);
        Due.fault(" ;", 1);
        Due.fault("sx5;x", 1);
        Due.fault("e1;x", 3);
        Due.fault("e1;e", 4);
        Due.fault("e1;;", 3);
        Due.fault("sa1;".repeat(24) + "sa1x", 99);
        Due.fault("sa1;".repeat(24) + "xa1;", 96);
        Due.fault("S", 0);
        Due.fault("e1e2;", 2);
        Due.fault("f0;", 2);
        Due.fault("f0+-;", 3);
        Due.fault("c1?0!1;", 4);
        Due.fault("c1!?0;", 3);
        Due.fault("c?0;", 1);
        Due.fault("c1,,2;", 3);
        Due.fault("c1,?0;", 3);
        Due.fault("ha1;", 2);
        Due.fault("j1,2;", 2);
        Due.fault("e1,2;", 2);
    }

    private static void nodesAbove29() {
        for (String behind : List.of("", ";", "0", "0;", "x", " ", ",", "?0;", "\u0000")) {
            Due.fault("j30" + behind, 1);
            Due.fault("j 99" + behind, 2);
            Due.fault("t5 31" + behind, 3);
            Due.fault("c30" + behind, 1);
            Due.fault("c1?0, 45" + behind, 6);
        }
        // With one digit no node is above 29 yet.
        Due.fault("j3", 2);
        Due.fault("j3x", 2);
        Due.fault("j9 9", 3);
        Due.fault("j29", 3);
        Due.fault("j290", 3);
    }

    private static void fifthOption() {
        Due.fault("c1,2,3,4,5;", 9);
        Due.fault("c1,2,3,4,05;", 9);
        Due.fault("c1,2,3,4,30;", 9);
        Due.fault("c1,2,3,4 ,  5;", 12);
        Due.fault("c1,2,3,4?0,5,6;", 11);
        Due.fault("e1;c1,2,3,4,5;e2;", 12);
        // The comma can stand, so that a text which ends behind it ends too early.
        Due.fault("c1,2,3,4,", 9);
        Due.fault("c1,2,3,4, ", 10);
        Due.fault("c1,2,3,4,;", 9);
        Due.fault("c1,2,3,4, ;", 10);
    }

    private static void thirtiethNode() {
        String most = "e0;".repeat(29);
        Due.good(most);
        for (char letter : "sphfjtce".toCharArray()) {
            Due.fault(most + letter, 87);
            Due.fault(most + "   " + letter, 90);
        }
        Due.fault(most + "e0;e0;", 87);
        Due.fault("e0;".repeat(28) + "e", 85);
    }

    private static void endsTooEarly() {
        for (int length = 0; length <= ALL_KINDS.length(); length++) {
            String text = ALL_KINDS.substring(0, length);
            boolean whole = text.isEmpty() || text.endsWith(";");
            Due.fault(text, whole ? NONE : length);
            Due.fault(text + "  ", whole ? NONE : length + 2);
        }
        Due.fault("sa1;".repeat(24) + "sa11", 100);
        Due.fault("sa1;".repeat(24) + "s   ", 100);
    }

    private static void newObject() {
        Due.played("f0+;pa0 1;sa1;").save(0);
        PictureScript x = new PictureScript();
        Due.is("digest", x.digest(), 1750736831227128690L);
        Due.is("nodes", x.count(0), 0);
        Due.is("seen", x.count(3), 1);
        Due.is("saved", x.count(4), 0);
        Due.moments("in a new object", x, 1, 0);
        Due.nobody("in a new object", x);
        Due.way(x, -2);
        Due.is("fault", x.fault(), NONE);
        Due.is("restore(0)", x.restore(0), Due.STATE);
        Due.is("again", x.again(), Due.STATE);
        Due.is("back(1)", x.back(1), Due.STATE);
        Due.is("clearText", x.clearText(), 0);
    }

    private static void letters() {
        PictureScript x = new PictureScript();
        for (int letter : new int[] {-1, 128, 129, 255, 256, 256 + 'e', -128, Integer.MIN_VALUE, Integer.MAX_VALUE}) {
            Due.is("type(" + letter + ")", x.type(letter), Due.BAD);
        }
        Due.is("length behind bad letters", x.count(6), 0);
        Due.is("type(0)", x.type(0), 1);
        Due.is("fault of byte 0", x.fault(), 0);
        Due.is("type(127)", x.type(127), 2);
        long h = 163;
        for (int v : Due.numbersOfDigest(x, "\u0000\u007f")) {
            h = 31 * h + v;
        }
        Due.is("digest with the bytes 0 and 127", x.digest(), h);
    }

    private static void fullText() {
        PictureScript x = new PictureScript();
        for (int length = 1; length <= 100; length++) {
            Due.is("type", x.type('z'), length);
        }
        Due.is("type of byte 101", x.type('z'), Due.FULL);
        Due.is("and once more", x.type(0), Due.FULL);
        Due.is("type(-1) with a full text", x.type(-1), Due.BAD);
        Due.is("type(128) with a full text", x.type(128), Due.BAD);
        Due.is("length", x.count(6), 100);
        x.clearText();
        Due.is("type behind clearText", x.type('z'), 1);
    }

    private static void emptied() {
        PictureScript x = Due.played("e1;");
        Due.write(x, "z".repeat(100));
        x.clearText();
        Due.is("length", x.count(6), 0);
        Due.is("fault", x.fault(), NONE);
        Due.is("the script stays", x.shown(3), 1);
        x.type('e');
        Due.is("what stood behind is gone", x.fault(), 1);
        x.clearText();
        Due.is("read", x.read(), 0);
    }

    private static void hadLength() {
        PictureScript x = new PictureScript();
        Due.is("clearText of an empty text", x.clearText(), 0);
        x.type('e');
        Due.is("clearText of one byte", x.clearText(), 1);
        Due.is("clearText once more", x.clearText(), 0);
        Due.write(x, "z".repeat(100));
        Due.is("clearText of a full text", x.clearText(), 100);
    }

    private static void noFault() {
        PictureScript x = new PictureScript();
        Due.is("fault of the empty text", x.fault(), NONE);
        x.type('z');
        Due.is("fault at the first byte", x.fault(), 0);
        Due.write(x, "e1;");
        Due.is("fault of a whole text", x.fault(), NONE);
        x.type('z');
        Due.is("fault at the last byte", x.fault(), 3);
        Due.is("fault once more", x.fault(), 3);
    }

    private static void textStays() {
        PictureScript x = Due.withText("sa1;sb2;");
        Due.is("read", x.read(), 2);
        Due.is("length", x.count(6), 8);
        x.type('e');
        x.type('1');
        Due.is("read of a text with a fault", x.read(), Due.STATE);
        Due.is("length then", x.count(6), 10);
        x.type(';');
        Due.is("read of the longer text", x.read(), 3);
        Due.is("and once more", x.read(), 3);
        Due.is("length at last", x.count(6), 11);
    }

    private static void readBeginsAnew() {
        PictureScript x = Due.played("f0+;pa0 1;sa1;sb2;sc3;");
        x.go();
        x.go();
        x.save(0);
        x.save(1);
        x.save(2);
        x.back(1);
        Due.moments("before", x, 2, 1);
        Due.is("read of the same text", x.read(), 5);
        Due.is("shown", x.shown(0), 2);
        Due.moments("behind read", x, 1, 0);
        Due.is("saved", x.count(4), 0);
        for (int slot = 0; slot < 3; slot++) {
            Due.is("restore(" + slot + ")", x.restore(slot), Due.STATE);
        }
        Due.is("seen", x.count(3), 1);
        Due.is("skip, to a line that is not seen any more", x.skip(), 1);
        Due.is("seen then", x.count(3), 2);
        Due.write(x, "j0;");
        x.read();
        Due.is("seen in a script that hangs", x.count(3), 1);
        Due.is("shown in a script that hangs", x.shown(0), 30);
        Due.nobody("in a script without portraits", x);
    }

    private static void readNodes() {
        PictureScript x = new PictureScript();
        Due.is("read of the empty text", x.read(), 0);
        Due.write(x, "e1;");
        Due.is("read of one node", x.read(), 1);
        Due.write(x, "e2;".repeat(29));
        Due.is("read of 29 nodes", x.read(), 29);
        Due.write(x, "e3;".repeat(30));
        Due.is("read of 30 nodes", x.read(), Due.STATE);
        Due.is("the script of 29 nodes stays", x.count(0), 29);
        Due.is("its end is shown", x.shown(3), 2);
        Due.write(x, "e4");
        Due.is("read of a text that ends too early", x.read(), Due.STATE);
    }
}
