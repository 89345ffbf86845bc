import java.util.ArrayList;
import java.util.List;
import java.util.Map;
import java.util.TreeMap;
import java.util.function.Consumer;
import java.util.function.IntUnaryOperator;
import java.util.function.ToIntFunction;

/** The edges that all promises share: a test of its own for each sentence of "What it is", "Errors" and "The constants". */
public final class ErrorEdgesTest {
    private static final int[] EDGES = {Integer.MIN_VALUE, -32, -31, -13, -12, -11, -5, -4, -3, -2, -1, 0, 1, 2, 3, 4, 5, 6, 7, 8, 9,
        10, 19, 20, 21, 28, 29, 30, 31, 32, 63, 64, 99, 100, 101, 127, 128, 255, 256, Integer.MAX_VALUE - 1, Integer.MAX_VALUE};
    private static final Map<String, ToIntFunction<PictureScript>> MOVES = moves();
    private static final Map<String, ToIntFunction<PictureScript>> LOOKS = looks();
    private static final Map<String, Consumer<PictureScript>> PLAYS = plays();

    public static void main(String[] args) {
        Due.holds("An object is used for at most 512 calls after it has been made", ErrorEdgesTest::fiveHundredCalls);
        Due.holds("BAD: an argument is out of range, or names something that does not exist.", ErrorEdgesTest::bad);
        Due.holds("STATE: the call is not possible now, as the method says.", ErrorEdgesTest::state);
        Due.holds("FULL: a limit would be exceeded.", ErrorEdgesTest::full);
        Due.holds("If several errors apply, the one that comes first in this list is returned.", ErrorEdgesTest::severalErrors);
        Due.holds("NONE is no error; it means that there is no such thing, and is returned only if no error applies.",
                ErrorEdgesTest::none);
        Due.holds("A call that returns an error changes nothing.", ErrorEdgesTest::refusedCallsChangeNothing);
        Due.holds("`BAD = -12, STATE = -13, FULL = -14`: Error codes.", ErrorEdgesTest::errorCodes);
        Due.holds("`NONE = -11`: There is no such thing.", ErrorEdgesTest::noSuchThing);
        // No sentence says it of all of them, but each of them says that it tells or returns, and of no change.
        Due.holds("Nothing is promised beyond the answers and state changes described above", ErrorEdgesTest::looksChangeNothing);
        Due.close("ErrorEdgesTest");
    }

    /** All calls that may change something, with all arguments that are of interest. */
    private static Map<String, ToIntFunction<PictureScript>> moves() {
        Map<String, ToIntFunction<PictureScript>> moves = new TreeMap<>();
        moves.put("clearText()", PictureScript::clearText);
        moves.put("read()", PictureScript::read);
        moves.put("begin()", PictureScript::begin);
        moves.put("go()", PictureScript::go);
        moves.put("skip()", PictureScript::skip);
        moves.put("again()", PictureScript::again);
        for (int a : EDGES) {
            moves.put("type(" + a + ")", x -> x.type(a));
            moves.put("choose(" + a + ")", x -> x.choose(a));
            moves.put("back(" + a + ")", x -> x.back(a));
            moves.put("save(" + a + ")", x -> x.save(a));
            moves.put("restore(" + a + ")", x -> x.restore(a));
        }
        return moves;
    }

    /** All calls that only tell. */
    private static Map<String, ToIntFunction<PictureScript>> looks() {
        Map<String, ToIntFunction<PictureScript>> looks = new TreeMap<>();
        looks.put("fault()", PictureScript::fault);
        looks.put("digest()", x -> (int) x.digest());
        for (int a : EDGES) {
            looks.put("shown(" + a + ")", x -> x.shown(a));
            looks.put("portrait(" + a + ", false)", x -> x.portrait(a, false));
            looks.put("portrait(" + a + ", true)", x -> x.portrait(a, true));
            looks.put("situations(" + a + ")", x -> x.situations(a));
            looks.put("choicesTo(" + a + ")", x -> x.choicesTo(a));
            looks.put("count(" + a + ")", x -> x.count(a));
            for (int b : EDGES) {
                looks.put("node(" + a + ", " + b + ")", x -> x.node(a, b));
                looks.put("wayTo(" + a + ", " + b + ")", x -> x.wayTo(a, b));
                looks.put("usable(" + a + ", " + b + ")", x -> x.usable(a, b));
                looks.put("option(" + a + ", " + b + ", 2)", x -> x.option(a, b, 2));
                looks.put("option(" + a + ", 0, " + b + ")", x -> x.option(a, 0, b));
            }
        }
        return looks;
    }

    /** Plays in which every call that may be refused is refused in one of them, and what is kept is of all kinds. */
    private static Map<String, Consumer<PictureScript>> plays() {
        String script = "sa0;pb1 2;f0+;c0?1,0,6,7;sc1;j4;e3;j7;";
        Map<String, Consumer<PictureScript>> plays = new TreeMap<>();
        plays.put("a new object", x -> { });
        plays.put("a line with turned back moments and a full text", x -> {
            begin(x, script);
            x.go();
            x.save(1);
            x.choose(1);
            x.go();
            x.back(1);
            Due.write(x, "z".repeat(100));
        });
        plays.put("a choice with turned back moments and a text with a fault", x -> {
            begin(x, script);
            x.save(0);
            x.go();
            x.choose(1);
            x.back(1);
            Due.write(x, "e1;c1,x");
        });
        plays.put("an end, all slots saved, a text that ends too early", x -> {
            begin(x, script);
            x.save(0);
            x.go();
            x.save(1);
            x.choose(2);
            x.save(2);
            Due.write(x, "sc5;j1");
        });
        plays.put("a play that hangs", x -> {
            begin(x, script);
            x.go();
            x.choose(3);
        });
        plays.put("a node that does not exist, in a play of 20 moments", x -> {
            begin(x, "sa0;pa0 1;t0 5;f0+;sb1;f1+;c0,29,0?5;");
            for (int i = 0; i < 12; i++) {
                x.go();
                x.go();
                x.choose(i % 2 == 0 ? 2 : 0);
            }
            x.choose(1);
            x.save(2);
        });
        plays.put("20 moments, most of them turned back, and a good text", x -> {
            begin(x, "sa0;j0;");
            x.skip();
            x.save(2);
            x.back(15);
            Due.write(x, "e1;e2;");
        });
        return plays;
    }

    private static void begin(PictureScript x, String script) {
        Due.write(x, script);
        Due.is("fault of \"" + script + "\"", x.fault(), Due.NONE);
        x.read();
    }

    /** What an object tells, and what can be found out of it by going through its moments and what is saved. */
    private static List<Long> everything(PictureScript x) {
        List<Long> told = new ArrayList<>();
        told.add(x.digest());
        for (int i = 0; i < 20 && x.back(1) >= 0; i++) {
            told.add(x.digest());
        }
        for (int i = 0; i < 20 && x.again() >= 0; i++) {
            told.add(x.digest());
        }
        for (int slot = 0; slot < 3; slot++) {
            told.add((long) x.restore(slot));
            told.add(x.digest());
        }
        told.add((long) x.begin());
        told.add((long) x.skip());
        told.add(x.digest());
        told.add((long) x.fault());
        told.add((long) x.read());
        told.add(x.digest());
        return told;
    }

    private static PictureScript inPlay(String play) {
        PictureScript x = new PictureScript();
        PLAYS.get(play).accept(x);
        return x;
    }

    private static boolean isError(int answer) {
        return answer == Due.BAD || answer == Due.STATE || answer == Due.FULL;
    }

    private static void refusedCallsChangeNothing() {
        Map<String, Integer> refusals = new TreeMap<>();
        for (String play : PLAYS.keySet()) {
            List<Long> due = everything(inPlay(play));
            for (String move : MOVES.keySet()) {
                PictureScript x = inPlay(play);
                if (isError(MOVES.get(move).applyAsInt(x))) {
                    refusals.merge(move.substring(0, move.indexOf('(')), 1, Integer::sum);
                    Due.is("all as before behind " + move + ", refused in " + play, everything(x).equals(due) ? 1 : 0, 1);
                }
            }
        }
        for (String call : List.of("type", "read", "go", "choose", "skip", "back", "again", "save", "restore")) {
            Due.is(call + " was refused somewhere", refusals.containsKey(call) ? 1 : 0, 1);
        }
        Due.is("clearText is never refused", refusals.containsKey("clearText") ? 1 : 0, 0);
        Due.is("begin is never refused", refusals.containsKey("begin") ? 1 : 0, 0);
    }

    private static void looksChangeNothing() {
        for (String play : PLAYS.keySet()) {
            List<Long> due = everything(inPlay(play));
            PictureScript x = inPlay(play);
            int calls = 0;
            for (String look : LOOKS.keySet()) {
                LOOKS.get(look).applyAsInt(x);
                calls++;
                if (calls % 100 == 0) {
                    // An object is used for 512 calls at most.
                    Due.is("all as before behind the calls to " + look + " in " + play, everything(x).equals(due) ? 1 : 0, 1);
                    x = inPlay(play);
                }
            }
            Due.is("all as before behind the last calls in " + play, everything(x).equals(due) ? 1 : 0, 1);
        }
    }

    private static void fiveHundredCalls() {
        PictureScript x = new PictureScript();
        int calls = 0;
        for (char letter : "sa0;f0+;sb1;j0;".toCharArray()) {
            x.type(letter);
            calls++;
        }
        Due.is("read", x.read(), 4);
        calls++;
        while (calls < 510) {
            Due.is("go", x.go(), calls % 2 == 0 ? 2 : 0);
            calls++;
        }
        Due.is("call 511", x.shown(4), 1);
        Due.is("call 512", x.back(19), 2);
        PictureScript clearing = new PictureScript();
        for (int i = 0; i < 256; i++) {
            Due.is("type", clearing.type('e'), 1);
            Due.is("clearText", clearing.clearText(), 1);
        }
        PictureScript reading = Due.withText("c3,5,7,1;c9,11,13,15;j0;f0+;j0;f1+;j0;f2+;j0;f3+;j0;f4+;j0;f5+;j0;e1;");
        for (int i = 0; i < 400; i++) {
            Due.is("read", reading.read(), 16);
        }
        Due.is("situations then", reading.situations(-1), 192);
    }

    /** Whether an answer is BAD for just those numbers that are not among the good ones. */
    private static void badBeside(String call, IntUnaryOperator answer, int least, int greatest, int... more) {
        for (int a : EDGES) {
            boolean good = a >= least && a <= greatest;
            for (int other : more) {
                good |= a == other;
            }
            int got = answer.applyAsInt(a);
            Due.is(call + " with " + a + " is " + (good ? "not BAD" : "BAD"), got == Due.BAD ? 1 : 0, good ? 0 : 1);
        }
    }

    private static void bad() {
        for (String play : PLAYS.keySet()) {
            PictureScript x = inPlay(play);
            badBeside("shown", a -> x.shown(a), 0, 5);
            badBeside("portrait", a -> x.portrait(a, true), 0, 2);
            badBeside("node", a -> x.node(a, 0), 0, x.count(0) - 1);
            badBeside("situations", a -> x.situations(a), -1, 30);
            badBeside("choicesTo", a -> x.choicesTo(a), 0, 9, -2, -3);
            badBeside("wayTo", a -> x.wayTo(a, 0), 0, 9, -2, -3);
            badBeside("i of wayTo", a -> x.wayTo(-2, a), 0, Integer.MAX_VALUE);
            badBeside("count", a -> x.count(a), 0, 6);
            badBeside("type", a -> inPlay(play).type(a), 0, 127);
            badBeside("choose", a -> inPlay(play).choose(a), 0, Integer.MAX_VALUE);
            badBeside("back", a -> inPlay(play).back(a), 1, 20);
            badBeside("save", a -> inPlay(play).save(a), 0, 2);
            badBeside("restore", a -> inPlay(play).restore(a), 0, 2);
        }
        PictureScript y = Due.played("sa0;c0,1;");
        badBeside("what of node", a -> y.node(0, a), 0, 3);
        badBeside("node of option", a -> y.option(a, 0, 0), 1, 1);
        badBeside("option of option", a -> y.option(1, a, 0), 0, Integer.MAX_VALUE);
        badBeside("what of option", a -> y.option(1, 0, a), 0, 2);
        badBeside("node of usable", a -> y.usable(a, 0), 1, 1);
        badBeside("option of usable", a -> y.usable(1, a), 0, 1);
    }

    private static void state() {
        PictureScript end = Due.played("e1;");
        Due.is("go at an end", end.go(), Due.STATE);
        Due.is("choose at an end", end.choose(0), Due.STATE);
        Due.is("skip at an end", end.skip(), Due.STATE);
        Due.is("back at the first moment", end.back(1), Due.STATE);
        Due.is("again at the last moment", end.again(), Due.STATE);
        Due.is("restore of nothing", end.restore(0), Due.STATE);
        end.type('x');
        Due.is("read of a text with a fault", end.read(), Due.STATE);
        // What is possible at any time.
        Due.is("begin", end.begin(), 0);
        Due.is("save", end.save(0), 0);
        Due.is("fault", end.fault(), 3);
        Due.is("clearText", end.clearText(), 4);
    }

    private static void full() {
        PictureScript x = Due.withText(" ".repeat(100));
        Due.is("type in a full text", x.type(' '), Due.FULL);
        Due.is("read of a full text", x.read(), 0);
        PictureScript ring = Due.played("sa0;j0;");
        ring.skip();
        Due.is("go in a play of 20 moments", ring.go(), 0);
        Due.is("save in a play of 20 moments", ring.save(0), 0);
        Due.is("a text of too many nodes has a fault instead", Due.withText("ha;".repeat(30)).read(), Due.STATE);
    }

    private static void severalErrors() {
        PictureScript full = Due.withText("z".repeat(100));
        Due.is("type(-1): BAD before FULL", full.type(-1), Due.BAD);
        Due.is("type(128): BAD before FULL", full.type(128), Due.BAD);
        PictureScript end = Due.played("e1;");
        Due.is("choose(-1) at an end: BAD before STATE", end.choose(-1), Due.BAD);
        Due.is("back(0) at the first moment: BAD before STATE", end.back(0), Due.BAD);
        Due.is("back(21) at the first moment: BAD before STATE", end.back(21), Due.BAD);
        Due.is("restore(-1) with nothing saved: BAD before STATE", end.restore(-1), Due.BAD);
        Due.is("restore(3) with nothing saved: BAD before STATE", end.restore(3), Due.BAD);
        PictureScript line = Due.played("sa0;");
        Due.is("choose(-1) at a line: BAD before STATE", line.choose(-1), Due.BAD);
        PictureScript locked = Due.played("c0?0;");
        Due.is("choose(-1) where all is locked: BAD before STATE", locked.choose(-1), Due.BAD);
    }

    private static void none() {
        PictureScript x = Due.played("sa0;c0,1;e1;");
        Due.is("an option that there is not", x.option(1, 2, 0), Due.NONE);
        Due.is("of a node that is no choice: BAD", x.option(0, 2, 0), Due.BAD);
        Due.is("with what out of range: BAD", x.option(1, 2, 3), Due.BAD);
        Due.is("a lock that there is not", x.option(1, 0, 2), Due.NONE);
        Due.is("a number that there is not", x.node(0, 3), Due.NONE);
        Due.is("with what out of range: BAD", x.node(0, 4), Due.BAD);
        Due.is("of a node that there is not: BAD", x.node(3, 3), Due.BAD);
        Due.is("nobody at a place", x.portrait(2, false), Due.NONE);
        Due.is("nobody at no place: BAD", x.portrait(3, false), Due.BAD);
        Due.is("no way to an end", x.wayTo(5, 0), Due.NONE);
        Due.is("no way, and i out of range: BAD", x.wayTo(5, -1), Due.BAD);
        Due.is("no way to no end: BAD", x.wayTo(-1, 0), Due.BAD);
        Due.is("no fault", x.fault(), Due.NONE);
        Due.is("no open options of a line", x.shown(5), Due.NONE);
    }

    private static void errorCodes() {
        Due.is("BAD", PictureScript.BAD, -12);
        Due.is("STATE", PictureScript.STATE, -13);
        Due.is("FULL", PictureScript.FULL, -14);
    }

    private static void noSuchThing() {
        Due.is("NONE", PictureScript.NONE, -11);
    }
}
