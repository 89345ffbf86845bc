/** Promises 14 to 17: shown, portrait, node, option. */
public final class ShownTest {
    private static final int NO = Due.NONE;

    public static void main(String[] args) {
        line();
        choice();
        ends();
        wrongShown();
        portrait();
        node();
        wrongNodes();
        option();
        wrongOptions();
        Due.close("ShownTest");
    }

    private static void shown(String text, int... parts) {
        PictureScript x = Due.played(text);
        for (int what = 0; what < 6; what++) {
            Due.is("shown(" + what + ") of \"" + text + "\"", x.shown(what), parts[what]);
        }
    }

    private static void line() {
        shown("sa0;", 0, 0, 0, 0, 0, NO);
        shown("f0+;f5+;sf99;", 2, 0, 5, 99, 33, NO);
        shown("sd07;", 0, 0, 3, 7, 0, NO);
    }

    private static void choice() {
        shown("c1;", 0, 1, NO, 1, 0, 1);
        shown("f2+;c1?2,2!2,3,4?0;", 1, 1, NO, 4, 4, 5);
        shown("c0?0,0?1;", 0, 1, NO, 2, 0, 0);
    }

    private static void ends() {
        shown("e0;", 0, 2, NO, 0, 0, NO);
        shown("f1+;e9;", 1, 2, NO, 9, 2, NO);
        shown("f1+;", 1, 2, NO, -2, 2, NO);
        shown("j17;", 17, 2, NO, -2, 0, NO);
        shown("j0;", 30, 2, NO, -3, 0, NO);
        shown("", 0, 2, NO, -2, 0, NO);
    }

    private static void wrongShown() {
        PictureScript x = Due.played("c1;");
        for (int what : new int[] {-1, 6, Integer.MIN_VALUE, Integer.MAX_VALUE}) {
            Due.is("shown(" + what + ")", x.shown(what), Due.BAD);
        }
    }

    private static void portrait() {
        PictureScript x = Due.played("pf0 4;pa2 0;sa0;");
        Due.portraits("of two", x, 5, 4, NO, NO, 0, 0);
        for (int place : new int[] {-1, 3, Integer.MIN_VALUE, Integer.MAX_VALUE}) {
            Due.is("portrait(" + place + ", false)", x.portrait(place, false), Due.BAD);
            Due.is("portrait(" + place + ", true)", x.portrait(place, true), Due.BAD);
        }
    }

    private static void parts(PictureScript x, int node, int... parts) {
        for (int what = 0; what < 4; what++) {
            Due.is("node(" + node + ", " + what + ")", x.node(node, what), parts[what]);
        }
    }

    private static void node() {
        PictureScript x = Due.played("sb12;pc2 4;hf;f5+;f4-;j29;t3 17;c1,2?0,3!1;e8;");
        parts(x, 0, 0, 1, 12, NO);
        parts(x, 1, 1, 2, 2, 4);
        parts(x, 2, 2, 5, NO, NO);
        parts(x, 3, 3, 5, 1, NO);
        parts(x, 4, 3, 4, 0, NO);
        parts(x, 5, 4, 29, NO, NO);
        parts(x, 6, 5, 3, 17, NO);
        parts(x, 7, 6, 3, NO, NO);
        parts(x, 8, 7, 8, NO, NO);
    }

    private static void wrongNodes() {
        PictureScript x = Due.played("sb12;c0;");
        for (int what : new int[] {-1, 4, Integer.MIN_VALUE, Integer.MAX_VALUE}) {
            Due.is("node(0, " + what + ")", x.node(0, what), Due.BAD);
        }
        for (int node : new int[] {-1, 2, 28, 29, 30, Integer.MIN_VALUE, Integer.MAX_VALUE}) {
            Due.is("node(" + node + ", 0)", x.node(node, 0), Due.BAD);
            Due.is("node(" + node + ", 3)", x.node(node, 3), Due.BAD);
        }
    }

    private static void option() {
        PictureScript x = Due.played("e0;c29,3?5,04!0;c1;");
        int[][] due = {{29, 0, NO}, {3, 1, 5}, {4, 2, 0}};
        for (int option = 0; option < 3; option++) {
            for (int what = 0; what < 3; what++) {
                Due.is("option(1, " + option + ", " + what + ")", x.option(1, option, what), due[option][what]);
            }
        }
        Due.is("option(1, 3, 0)", x.option(1, 3, 0), NO);
        Due.is("option(1, 4, 2)", x.option(1, 4, 2), NO);
        Due.is("option(1, greatest, 0)", x.option(1, Integer.MAX_VALUE, 0), NO);
        Due.is("option(2, 0, 0)", x.option(2, 0, 0), 1);
        Due.is("option(2, 1, 0)", x.option(2, 1, 0), NO);
    }

    private static void wrongOptions() {
        PictureScript x = Due.played("e0;c29,3?5,04!0;c1;");
        for (int node : new int[] {-1, 0, 3, 29, 30, Integer.MIN_VALUE, Integer.MAX_VALUE}) {
            Due.is("option(" + node + ", 0, 0)", x.option(node, 0, 0), Due.BAD);
        }
        Due.is("option(1, -1, 0)", x.option(1, -1, 0), Due.BAD);
        Due.is("option(1, least, 0)", x.option(1, Integer.MIN_VALUE, 0), Due.BAD);
        for (int what : new int[] {-1, 3, Integer.MIN_VALUE, Integer.MAX_VALUE}) {
            Due.is("option(1, 0, " + what + ")", x.option(1, 0, what), Due.BAD);
            Due.is("option(1, 7, " + what + ")", x.option(1, 7, what), Due.BAD);
        }
    }
}
