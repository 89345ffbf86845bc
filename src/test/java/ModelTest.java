import java.util.ArrayList;
import java.util.List;

/** All promises: long runs of calls, whose answers are held against those of the model. */
public final class ModelTest {
    private static final int OBJECTS = 1500;
    private static final int CALLS = 512;
    private static final String SIGNS = "sphfjtceabdg0123456789+-?!,;; :";

    private static long state = 20261119;

    private PictureScript x = new PictureScript();
    private Model model = new Model();
    private int calls;
    private boolean wrong;
    private String text = "";

    public static void main(String[] args) {
        int wrongObjects = 0;
        for (int i = 0; i < OBJECTS; i++) {
            ModelTest test = new ModelTest();
            test.run(i);
            wrongObjects += test.wrong ? 1 : 0;
        }
        Due.is("objects with a wrong answer", wrongObjects, 0);
        for (int i = 0; i < 2 * OBJECTS; i++) {
            faultOf(i % 4 == 0 ? noise() : changed(script()));
        }
        Due.close("ModelTest");
    }

    /** A number from 0 to below the bound: the same ones in every run of the test. */
    private static int some(int bound) {
        state = state * 6364136223846793005L + 1442695040888963407L;
        return (int) Math.floorMod(state >> 33, (long) bound);
    }

    private static String blanks() {
        return " ".repeat(some(12) == 0 ? 1 + some(2) : 0);
    }

    private static String target(List<Integer> likely) {
        int node = some(40) == 0 ? some(30) : likely.get(some(likely.size()));
        return node < 10 && some(10) == 0 ? "0" + node : "" + node;
    }

    private static String options(List<Integer> likely) {
        StringBuilder options = new StringBuilder();
        int count = some(3) == 0 ? 1 + some(4) : 3 + some(2);
        for (int i = 0; i < count; i++) {
            options.append(i == 0 ? "" : "," + blanks()).append(target(likely)).append(blanks());
            if (some(3) == 0) {
                options.append(some(2) == 0 ? '?' : '!').append(blanks()).append(some(3));
            }
        }
        return options.toString();
    }

    private static char voice() {
        return (char) ('a' + some(some(3) == 0 ? 6 : 2));
    }

    private static String node(List<Integer> likely, String kinds) {
        char kind = kinds.charAt(some(kinds.length()));
        String begin = blanks() + kind + blanks();
        switch (kind) {
            case 's':
                return begin + voice() + blanks() + some(100);
            case 'p':
                return begin + voice() + blanks() + some(3) + " " + blanks() + some(5);
            case 'h':
                return begin + voice();
            case 'f':
                return begin + some(some(3) == 0 ? 6 : 3) + blanks() + (some(3) == 0 ? '-' : '+');
            case 'j':
                return begin + target(likely);
            case 't':
                return begin + some(3) + " " + target(likely);
            case 'c':
                return begin + options(likely);
            default:
                return begin + some(some(2) == 0 ? 10 : 3);
        }
    }

    private static String script() {
        return some(3) == 0 ? looseScript() : knottedScript();
    }

    /** Choices at the beginning lead to blocks, which mostly lead back: plays can come to many situations. */
    private static String knottedScript() {
        String[] blocks = {"fj", "fj", "fj", "fj", "fs", "fcj", "e", "sj", "ftj", "pfj", "tj", "ffj", "s", "pshj", "c", "tfe", "e", "te"};
        StringBuilder kinds = new StringBuilder(some(4) == 0 ? "s" : "");
        List<Integer> heads = new ArrayList<>();
        List<Integer> starts = new ArrayList<>();
        for (int i = 1 + some(2); i > 0; i--) {
            heads.add(kinds.length());
            kinds.append('c');
        }
        starts.addAll(heads);
        for (int i = 3 + some(8); i > 0 && kinds.length() < 17; i--) {
            starts.add(kinds.length());
            kinds.append(blocks[some(blocks.length)]);
        }
        StringBuilder text = new StringBuilder();
        for (int i = 0; i < kinds.length(); i++) {
            String kind = kinds.substring(i, i + 1);
            String node = node(kind.equals("j") ? heads : starts, kind) + ";";
            if (text.length() + node.length() <= 100) {
                text.append(node);
            }
        }
        return text.toString();
    }

    private static String looseScript() {
        String[] mixtures = {"sphfjtce", "ssccffee", "ccccffte", "ffffjjjtttce", "sssspphjc", "cffffjj", "hhhfftjcc"};
        String kinds = mixtures[some(mixtures.length)];
        int nodes = 1 + some(28);
        List<Integer> likely = new ArrayList<>();
        for (int i = 0; i <= Math.min(nodes, 16); i++) {
            likely.add(i);
        }
        StringBuilder text = new StringBuilder();
        for (int i = 0; i < nodes; i++) {
            String node = node(likely, kinds) + blanks() + ";";
            if (text.length() + node.length() > 100) {
                return text.toString();
            }
            text.append(node);
        }
        return text.toString();
    }

    private static String noise() {
        StringBuilder text = new StringBuilder();
        for (int i = some(12); i > 0; i--) {
            text.append(SIGNS.charAt(some(SIGNS.length())));
        }
        return text.toString();
    }

    private static String changed(String text) {
        StringBuilder changed = new StringBuilder(text);
        for (int i = 1 + some(2); i > 0 && changed.length() > 0; i--) {
            int at = some(changed.length());
            char sign = some(8) == 0 ? (char) some(128) : SIGNS.charAt(some(SIGNS.length()));
            switch (some(4)) {
                case 0:
                    changed.deleteCharAt(at);
                    break;
                case 1:
                    changed.insert(at, sign);
                    break;
                case 2:
                    changed.setLength(at);
                    break;
                default:
                    changed.setCharAt(at, sign);
            }
        }
        changed.setLength(Math.min(100, changed.length()));
        return changed.toString();
    }

    private static void faultOf(String text) {
        PictureScript x = new PictureScript();
        Model model = new Model();
        for (int i = 0; i < text.length(); i++) {
            x.type(text.charAt(i));
            model.type(text.charAt(i));
        }
        Due.is("fault of \"" + text + "\"", x.fault(), model.fault());
    }

    private void same(String call, long got, long due) {
        calls++;
        if (got != due && !wrong) {
            wrong = true;
            System.out.println("script \"" + text + "\", call " + calls + ": " + call + " answered " + got + ", due is " + due);
        }
    }

    private void write(String newText) {
        text = newText;
        same("clearText", x.clearText(), model.clearText());
        for (int i = 0; i < text.length(); i++) {
            same("type", x.type(text.charAt(i)), model.type(text.charAt(i)));
        }
        same("fault", x.fault(), model.fault());
        same("read", x.read(), model.read());
        same("digest", x.digest(), model.digest());
    }

    private void run(int object) {
        write(script());
        while (calls < CALLS - 110 && !wrong) {
            move();
            if (some(4) == 0) {
                look();
            }
            if (some(150) == 0) {
                write(some(3) == 0 ? changed(text) : script());
            }
        }
        while (calls < CALLS && !wrong) {
            look();
        }
    }

    private void move() {
        int n = some(10) == 0 ? some(25) - 2 : 1 + some(x.shown(1) == 2 ? 1 : 3);
        switch (some(12)) {
            case 0:
                same("back(" + n + ")", x.back(n), model.back(n));
                break;
            case 1:
                same("again", x.again(), model.again());
                break;
            case 2:
                same("skip", x.skip(), model.skip());
                break;
            case 3:
                n = some(12) == 0 ? n : some(3);
                same("save(" + n + ")", x.save(n), model.save(n));
                break;
            case 4:
                n = some(12) == 0 ? n : some(3);
                if (some(x.shown(1) == 2 ? 2 : 5) == 0) {
                    same("restore(" + n + ")", x.restore(n), model.restore(n));
                }
                break;
            case 5:
                if (some(x.shown(1) == 2 ? 2 : 6) == 0) {
                    same("begin", x.begin(), model.begin());
                }
                break;
            case 6: case 7: case 8:
                same("go", x.go(), model.go());
                break;
            default:
                n = some(12) == 0 ? -1 : some(4);
                same("choose(" + n + ")", x.choose(n), model.choose(n));
        }
    }

    private void look() {
        int a = some(20) == 0 ? some(70) - 20 : some(16);
        int b = some(5) - (some(8) == 0 ? 1 : 0);
        int c = some(4) - (some(8) == 0 ? 1 : 0);
        int end = some(14) - 4;
        switch (some(11)) {
            case 0:
                same("shown(" + b + ")", x.shown(b), model.shown(b));
                break;
            case 1:
                same("portrait(" + c + ")", x.portrait(c, b > 1), model.portrait(c, b > 1));
                break;
            case 2:
                same("node(" + a + ", " + b + ")", x.node(a, b), model.node(a, b));
                break;
            case 3:
                same("option(" + a + ", " + b + ", " + c + ")", x.option(a, b, c), model.option(a, b, c));
                break;
            case 4:
                same("situations(" + a + ")", x.situations(a), model.situations(a));
                break;
            case 5:
                same("choicesTo(" + end + ")", x.choicesTo(end), model.choicesTo(end));
                break;
            case 6: case 7:
                same("wayTo(" + end + ", " + b + ")", x.wayTo(end, b), model.wayTo(end, b));
                break;
            case 8:
                same("usable(" + a + ", " + b + ")", x.usable(a, b), model.usable(a, b));
                break;
            case 9:
                same("count(" + a + ")", x.count(a), model.count(a));
                break;
            default:
                same("digest", x.digest(), model.digest());
        }
    }
}
