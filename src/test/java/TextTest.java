/** Promises 1 to 5: a new object, type, clearText, fault, read. */
public final class TextTest {
    public static void main(String[] args) {
        newObject();
        type();
        clearText();
        emptyTexts();
        lines();
        portraits();
        flagsAndEnds();
        jumps();
        choices();
        tooManyNodes();
        oddBytes();
        faultLeavesThePlay();
        read();
        readBeginsAnew();
        Due.close("TextTest");
    }

    private static void newObject() {
        PictureScript x = new PictureScript();
        Due.is("nodes", x.count(0), 0);
        Due.is("text", x.count(6), 0);
        Due.is("fault", x.fault(), Due.NONE);
        Due.is("node", x.shown(0), 0);
        Due.is("kind", x.shown(1), 2);
        Due.is("end", x.shown(3), -2);
        Due.is("flags", x.shown(4), 0);
        Due.is("seen", x.count(3), 1);
        Due.is("saved", x.count(4), 0);
        Due.moments("of a new object", x, 1, 0);
        Due.portraits("in a new object", x, Due.NONE, Due.NONE, Due.NONE, Due.NONE, Due.NONE, Due.NONE);
        Due.way(x, -2);
    }

    private static void type() {
        PictureScript x = new PictureScript();
        Due.is("type(-1)", x.type(-1), Due.BAD);
        Due.is("type(128)", x.type(128), Due.BAD);
        Due.is("type(least)", x.type(Integer.MIN_VALUE), Due.BAD);
        Due.is("type(greatest)", x.type(Integer.MAX_VALUE), Due.BAD);
        Due.is("length after bad ones", x.count(6), 0);
        Due.is("type(0)", x.type(0), 1);
        Due.is("type(127)", x.type(127), 2);
        for (int i = 3; i <= 100; i++) {
            Due.is("type of byte " + i, x.type(' '), i);
        }
        Due.is("type of byte 101", x.type(' '), Due.FULL);
        Due.is("BAD comes before FULL", x.type(128), Due.BAD);
        Due.is("length of a full text", x.count(6), 100);
        x.clearText();
        Due.is("type after clearText", x.type('e'), 1);
    }

    private static void clearText() {
        PictureScript x = Due.withText("e1;");
        Due.is("clearText", x.clearText(), 3);
        Due.is("clearText of an empty text", x.clearText(), 0);
        Due.is("length", x.count(6), 0);
        Due.write(x, "e2;");
        x.read();
        Due.is("the new text is read", x.shown(3), 2);
        x.clearText();
        Due.is("the script stays", x.shown(3), 2);
    }

    private static void emptyTexts() {
        Due.good("");
        Due.good(" ");
        Due.good(" ".repeat(100));
        Due.fault(";", 0);
        Due.fault(" ;", 1);
        Due.good("e1;  ");
        Due.good("  e1;");
        Due.fault("e1;;", 3);
        Due.fault("e1; ;", 4);
    }

    private static void lines() {
        Due.good("sa5;");
        Due.good("sf99;");
        Due.good("sb00;");
        Due.good(" s a 5 ; ");
        Due.good("s a 12;sb3;");
        Due.fault("sg5;", 1);
        Due.fault("sA5;", 1);
        Due.fault("s5;", 1);
        Due.fault("s", 1);
        Due.fault("sa", 2);
        Due.fault("sa;", 2);
        Due.fault("sa ", 3);
        Due.fault("sa5", 3);
        Due.fault("sa5 ", 4);
        Due.fault("sa55", 4);
        Due.fault("sa123;", 4);
        Due.fault("sa1 2;", 4);
        Due.fault("sa12 3;", 5);
        Due.fault("sa5,", 3);
        Due.fault("sab5;", 2);
        Due.fault("sa-5;", 2);
    }

    private static void portraits() {
        Due.good("pa0 0;");
        Due.good("pf2 4;");
        Due.good("p c 1   3 ;");
        Due.fault("pg0 0;", 1);
        Due.fault("pa3 0;", 2);
        Due.fault("pa0 5;", 4);
        Due.fault("pa03;", 3);
        Due.fault("pa09;", 3);
        Due.fault("pa0 34;", 5);
        Due.fault("pa0 3 4;", 6);
        Due.fault("pa0;", 3);
        Due.fault("pa0 ;", 4);
        Due.fault("pa0", 3);
        Due.good("ha;");
        Due.good("h f ;");
        Due.fault("hg;", 1);
        Due.fault("h;", 1);
        Due.fault("ha", 2);
        Due.fault("ha1;", 2);
    }

    private static void flagsAndEnds() {
        Due.good("f0+;");
        Due.good("f5-;");
        Due.good("f 3 + ;");
        Due.fault("f6+;", 1);
        Due.fault("f60;", 1);
        Due.fault("f12+;", 2);
        Due.fault("f1;", 2);
        Due.fault("f1 2", 3);
        Due.fault("f1+-;", 3);
        Due.fault("f1+", 3);
        Due.fault("f1?;", 2);
        Due.fault("f+;", 1);
        Due.good("e0;");
        Due.good("e9;");
        Due.good("e 4 ;");
        Due.fault("e12;", 2);
        Due.fault("e1 2;", 3);
        Due.fault("e;", 1);
        Due.fault("e", 1);
        Due.fault("e1", 2);
    }

    private static void jumps() {
        Due.good("j0;");
        Due.good("j29;");
        Due.good("j03;");
        Due.good("j 7 ;");
        Due.fault("j30;", 1);
        Due.fault("j30", 1);
        Due.fault("j300;", 1);
        Due.fault("j99", 1);
        Due.fault("j 45x", 2);
        Due.fault("j290;", 3);
        Due.fault("j030;", 3);
        Due.fault("j3 0;", 3);
        Due.fault("j3", 2);
        Due.fault("j", 1);
        Due.fault("ja;", 1);
        Due.good("t0 5;");
        Due.good("t5 29;");
        Due.good("t 1   2 ;");
        Due.fault("t05;", 2);
        Due.fault("t0 30;", 3);
        Due.fault("t0 300;", 3);
        Due.fault("t0 123;", 5);
        Due.fault("t6 1;", 1);
        Due.fault("t1;", 2);
        Due.fault("t1", 2);
        Due.fault("t1 2", 4);
        Due.fault("t1+2;", 2);
    }

    private static void choices() {
        Due.good("c1;");
        Due.good("c1,2,3,4;");
        Due.good("c1?0,2!5;");
        Due.good(" c 1 ? 0 , 29 ! 5 ; ");
        Due.good("c12?0,13;");
        Due.fault("c;", 1);
        Due.fault("c", 1);
        Due.fault("c1,;", 3);
        Due.fault("c,1;", 1);
        Due.fault("c1,", 3);
        Due.fault("c1", 2);
        Due.fault("c30;", 1);
        Due.fault("c1,30;", 3);
        Due.fault("c1,299;", 5);
        Due.fault("c1 2;", 3);
        Due.fault("c1?6;", 3);
        Due.fault("c1?;", 3);
        Due.fault("c1?", 3);
        Due.fault("c1??0;", 3);
        Due.fault("c1?0?1;", 4);
        Due.fault("c1?01;", 4);
        Due.fault("c1?0 1;", 5);
        Due.fault("c1+;", 2);
        Due.fault("c1,2,3,4,5;", 9);
        Due.fault("c1,2,3,4, 5;", 10);
        Due.fault("c1,2,3,4,35;", 9);
        Due.fault("c1,2,3,4,;", 9);
        Due.fault("c1,2,3,4,", 9);
        Due.fault("c1,2,3,4 , ", 11);
        Due.fault("c1,2,3,4!0,5;", 11);
    }

    private static void tooManyNodes() {
        String most = "e0;".repeat(29);
        Due.good(most);
        Due.good(most + "   ");
        Due.fault(most + "e0;", 87);
        Due.fault(most + "  e0;", 89);
        Due.fault(most + "x", 87);
        Due.fault(most + ";", 87);
        PictureScript x = Due.withText(most);
        Due.is("read of 29 nodes", x.read(), 29);
    }

    private static void oddBytes() {
        Due.fault("\u0000", 0);
        Due.fault("\u007f", 0);
        Due.fault("\t", 0);
        Due.fault("e1;\n", 3);
        Due.fault("e\u00001;", 1);
        Due.fault("S", 0);
        Due.fault("k", 0);
        Due.fault("e1\u0000", 2);
    }

    private static void faultLeavesThePlay() {
        PictureScript x = Due.played("pa0 1;f1+;sb7;e3;");
        Due.write(x, "sc1;c1,2,x");
        long before = x.digest();
        Due.is("fault", x.fault(), 9);
        Due.is("digest behind fault", x.digest(), before);
        Due.is("read", x.read(), Due.STATE);
        Due.is("digest behind a read that is refused", x.digest(), before);
        Due.is("the script stays", x.node(2, 2), 7);
    }

    private static void read() {
        PictureScript x = Due.withText("sa1;sb2;e3;");
        Due.is("nodes before read", x.count(0), 0);
        Due.is("read", x.read(), 3);
        Due.is("nodes behind read", x.count(0), 3);
        Due.is("the text stays", x.count(6), 11);
        Due.is("read once more", x.read(), 3);
        Due.write(x, "  ");
        Due.is("read of blanks", x.read(), 0);
        Due.is("shown in the empty script", x.shown(3), -2);
    }

    private static void readBeginsAnew() {
        PictureScript x = Due.played("sa1;pa0 1;f2+;sb2;e3;");
        x.go();
        x.go();
        x.save(0);
        x.save(2);
        x.back(1);
        Due.is("seen before", x.count(3), 3);
        Due.is("saved before", x.count(4), 2);
        Due.write(x, "f0+;pb1 2;sc4;");
        x.read();
        Due.is("node", x.shown(0), 2);
        Due.is("flags", x.shown(4), 1);
        Due.is("seen", x.count(3), 1);
        Due.is("saved", x.count(4), 0);
        Due.is("restore(0)", x.restore(0), Due.STATE);
        Due.moments("behind read", x, 1, 0);
        Due.portraits("behind read", x, Due.NONE, Due.NONE, 1, 2, Due.NONE, Due.NONE);
        Due.is("go", x.go(), 3);
        Due.is("seen then", x.count(3), 2);
    }
}
