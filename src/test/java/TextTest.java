/** Promises 1 to 5: a new object, type, clearText, fault, read. */
public final class TextTest {
    public static void main(String[] args) {
        newObject();
        type();
        clearText();
        emptyTexts();
        lines();
        portraits();
        flagsAndEnds();
        jumps();
        choices();
        tooManyNodes();
        oddBytes();
        faultLeavesThePlay();
        read();
        readBeginsAnew();
        Due.close("TextTest");
    }

    private static void newObject() {
        PictureScript x = new PictureScript();
        Due.is("nodes", x.count(0), 0);
        Due.is("text", x.count(6), 0);
        Due.is("fault", x.fault(), Due.NONE);
        Due.is("node", x.shown(0), 0);
        Due.is("kind", x.shown(1), 2);
        Due.is("end", x.shown(3), -2);
        Due.is("flags", x.shown(4), 0);
        Due.is("seen", x.count(3), 1);
        Due.is("saved", x.count(4), 0);
        Due.moments("of a new object", x, 1, 0);
        Due.portraits("in a new object", x, Due.NONE, Due.NONE, Due.NONE, Due.NONE, Due.NONE, Due.NONE);
        Due.way(x, -2);
    }

    private static void type() {
        PictureScript x = new PictureScript();
        Due.is("type(-1)", x.type(-1), Due.BAD);
        Due.is("type(128)", x.type(128), Due.BAD);
        Due.is("type(least)", x.type(Integer.MIN_VALUE), Due.BAD);
        Due.is("type(greatest)", x.type(Integer.MAX_VALUE), Due.BAD);
        Due.is("length after bad ones", x.count(6), 0);
        Due.is("type(0)", x.type(0), 1);
        Due.is("type(127)", x.type(127), 2);
        for (int i = 3; i <= 100; i++) {
            Due.is("type of byte " + i, x.type(' '), i);
        }
        Due.is("type of byte 101", x.type(' '), Due.FULL);
        Due.is("BAD comes before FULL", x.type(128), Due.BAD);
        Due.is("length of a full text", x.count(6), 100);
        x.clearText();
        Due.is("type after clearText", x.type('e'), 1);
    }

    private static void clearText() {
        PictureScript x = Due.withText("e1;");
        Due.is("clearText", x.clearText(), 3);
        Due.is("clearText of an empty text", x.clearText(), 0);
        Due.is("length", x.count(6), 0);
        Due.write(x, "e2;");
        x.read();
        Due.is("the new text is read", x.shown(3), 2);
        x.clearText();
        Due.is("the script stays", x.shown(3), 2);
    }

    private static void fault(String text, int due) {
        PictureScript x = Due.withText(text);
        Due.is("fault of \"" + text + "\"", x.fault(), due);
        Due.is("length behind fault of \"" + text + "\"", x.count(6), text.length());
        if (due != Due.NONE) {
            Due.is("read of \"" + text + "\"", x.read(), Due.STATE);
        }
    }

    private static void good(String text) {
        fault(text, Due.NONE);
    }

    private static void emptyTexts() {
        good("");
        good(" ");
        good(" ".repeat(100));
        fault(";", 0);
        fault(" ;", 1);
        good("e1;  ");
        good("  e1;");
        fault("e1;;", 3);
        fault("e1; ;", 4);
    }

    private static void lines() {
        good("sa5;");
        good("sf99;");
        good("sb00;");
        good(" s a 5 ; ");
        good("s a 12;sb3;");
        fault("sg5;", 1);
        fault("sA5;", 1);
        fault("s5;", 1);
        fault("s", 1);
        fault("sa", 2);
        fault("sa;", 2);
        fault("sa ", 3);
        fault("sa5", 3);
        fault("sa5 ", 4);
        fault("sa55", 4);
        fault("sa123;", 4);
        fault("sa1 2;", 4);
        fault("sa12 3;", 5);
        fault("sa5,", 3);
        fault("sab5;", 2);
        fault("sa-5;", 2);
    }

    private static void portraits() {
        good("pa0 0;");
        good("pf2 4;");
        good("p c 1   3 ;");
        fault("pg0 0;", 1);
        fault("pa3 0;", 2);
        fault("pa0 5;", 4);
        fault("pa03;", 3);
        fault("pa09;", 3);
        fault("pa0 34;", 5);
        fault("pa0 3 4;", 6);
        fault("pa0;", 3);
        fault("pa0 ;", 4);
        fault("pa0", 3);
        good("ha;");
        good("h f ;");
        fault("hg;", 1);
        fault("h;", 1);
        fault("ha", 2);
        fault("ha1;", 2);
    }

    private static void flagsAndEnds() {
        good("f0+;");
        good("f5-;");
        good("f 3 + ;");
        fault("f6+;", 1);
        fault("f60;", 1);
        fault("f12+;", 2);
        fault("f1;", 2);
        fault("f1 2", 3);
        fault("f1+-;", 3);
        fault("f1+", 3);
        fault("f1?;", 2);
        fault("f+;", 1);
        good("e0;");
        good("e9;");
        good("e 4 ;");
        fault("e12;", 2);
        fault("e1 2;", 3);
        fault("e;", 1);
        fault("e", 1);
        fault("e1", 2);
    }

    private static void jumps() {
        good("j0;");
        good("j29;");
        good("j03;");
        good("j 7 ;");
        fault("j30;", 1);
        fault("j30", 1);
        fault("j300;", 1);
        fault("j99", 1);
        fault("j 45x", 2);
        fault("j290;", 3);
        fault("j030;", 3);
        fault("j3 0;", 3);
        fault("j3", 2);
        fault("j", 1);
        fault("ja;", 1);
        good("t0 5;");
        good("t5 29;");
        good("t 1   2 ;");
        fault("t05;", 2);
        fault("t0 30;", 3);
        fault("t0 300;", 3);
        fault("t0 123;", 5);
        fault("t6 1;", 1);
        fault("t1;", 2);
        fault("t1", 2);
        fault("t1 2", 4);
        fault("t1+2;", 2);
    }

    private static void choices() {
        good("c1;");
        good("c1,2,3,4;");
        good("c1?0,2!5;");
        good(" c 1 ? 0 , 29 ! 5 ; ");
        good("c12?0,13;");
        fault("c;", 1);
        fault("c", 1);
        fault("c1,;", 3);
        fault("c,1;", 1);
        fault("c1,", 3);
        fault("c1", 2);
        fault("c30;", 1);
        fault("c1,30;", 3);
        fault("c1,299;", 5);
        fault("c1 2;", 3);
        fault("c1?6;", 3);
        fault("c1?;", 3);
        fault("c1?", 3);
        fault("c1??0;", 3);
        fault("c1?0?1;", 4);
        fault("c1?01;", 4);
        fault("c1?0 1;", 5);
        fault("c1+;", 2);
        fault("c1,2,3,4,5;", 9);
        fault("c1,2,3,4, 5;", 10);
        fault("c1,2,3,4,35;", 9);
        fault("c1,2,3,4,;", 9);
        fault("c1,2,3,4,", 9);
        fault("c1,2,3,4 , ", 11);
        fault("c1,2,3,4!0,5;", 11);
    }

    private static void tooManyNodes() {
        String most = "e0;".repeat(29);
        good(most);
        good(most + "   ");
        fault(most + "e0;", 87);
        fault(most + "  e0;", 89);
        fault(most + "x", 87);
        fault(most + ";", 87);
        PictureScript x = Due.withText(most);
        Due.is("read of 29 nodes", x.read(), 29);
    }

    private static void oddBytes() {
        fault("\u0000", 0);
        fault("\u007f", 0);
        fault("\t", 0);
        fault("e1;\n", 3);
        fault("e\u00001;", 1);
        fault("S", 0);
        fault("k", 0);
        fault("e1\u0000", 2);
    }

    private static void faultLeavesThePlay() {
        PictureScript x = Due.played("pa0 1;f1+;sb7;e3;");
        Due.write(x, "sc1;c1,2,x");
        long before = x.digest();
        Due.is("fault", x.fault(), 9);
        Due.is("digest behind fault", x.digest(), before);
        Due.is("read", x.read(), Due.STATE);
        Due.is("digest behind a read that is refused", x.digest(), before);
        Due.is("the script stays", x.node(2, 2), 7);
    }

    private static void read() {
        PictureScript x = Due.withText("sa1;sb2;e3;");
        Due.is("nodes before read", x.count(0), 0);
        Due.is("read", x.read(), 3);
        Due.is("nodes behind read", x.count(0), 3);
        Due.is("the text stays", x.count(6), 11);
        Due.is("read once more", x.read(), 3);
        Due.write(x, "  ");
        Due.is("read of blanks", x.read(), 0);
        Due.is("shown in the empty script", x.shown(3), -2);
    }

    private static void readBeginsAnew() {
        PictureScript x = Due.played("sa1;pa0 1;f2+;sb2;e3;");
        x.go();
        x.go();
        x.save(0);
        x.save(2);
        x.back(1);
        Due.is("seen before", x.count(3), 3);
        Due.is("saved before", x.count(4), 2);
        Due.write(x, "f0+;pb1 2;sc4;");
        x.read();
        Due.is("node", x.shown(0), 2);
        Due.is("flags", x.shown(4), 1);
        Due.is("seen", x.count(3), 1);
        Due.is("saved", x.count(4), 0);
        Due.is("restore(0)", x.restore(0), Due.STATE);
        Due.moments("behind read", x, 1, 0);
        Due.portraits("behind read", x, Due.NONE, Due.NONE, 1, 2, Due.NONE, Due.NONE);
        Due.is("go", x.go(), 3);
        Due.is("seen then", x.count(3), 2);
    }
}
