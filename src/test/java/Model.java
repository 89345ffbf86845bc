import java.util.ArrayDeque;
import java.util.ArrayList;
import java.util.Arrays;
import java.util.HashMap;
import java.util.List;
import java.util.Map;
import java.util.TreeMap;
import java.util.TreeSet;
import java.util.regex.Matcher;
import java.util.regex.Pattern;

/**
 * The document in another form, to be held against the class: faults by patterns, moments that never change,
 * and a chart whose ways are made better until none can be.
 */
final class Model {
    static final int BAD = -12, STATE = -13, FULL = -14, NONE = -11;

    private static final String LETTERS = "sphfjtce";
    private static final Pattern STRICT = pattern("[0-2]?[0-9]");
    private static final Pattern ANY_NODE = pattern("[0-9][0-9]?");
    private static final Pattern PART = Pattern.compile("[0-9]+|[-a-f+]");
    private static final Pattern OPTION = Pattern.compile(" *([0-9]+) *(?:([?!]) *([0-9]))? *");

    /** A node with its numbers and, of a choice, its options: target, lock and flag of each. */
    record Node(int kind, List<Integer> numbers, List<int[]> options) {
    }

    /** The portraits are voice and face of the places 0 to 2. */
    record Moment(int node, int flags, List<Integer> portraits) {
    }

    private String text = "";
    private List<Node> script = List.of();
    private final List<Moment> moments = new ArrayList<>();
    private int present;
    private final Map<Integer, Moment> saved = new TreeMap<>();
    private final TreeSet<Integer> seen = new TreeSet<>();
    private Map<Moment, List<Integer>> ways = new HashMap<>();

    Model() {
        beginScript();
    }

    private static Pattern pattern(String node) {
        String option = node + " *([?!] *[0-5] *)?";
        // No text has the last sign: so a comma behind four options can stand, but nothing behind it.
        String options = option + "(, *" + option + "){0,3}|" + option + "(, *" + option + "){3}, *\uffff";
        String kinds = "s *[a-f] *[0-9][0-9]?|p *[a-f] *[0-2] +[0-4]|h *[a-f]|f *[0-5] *[-+]|j *" + node
                + "|t *[0-5] +" + node + "|c *(" + options + ")|e *[0-9]";
        return Pattern.compile(" *((" + kinds + ") *; *){0,29}");
    }

    private static boolean canBegin(Pattern pattern, String text) {
        Matcher matcher = pattern.matcher(text);
        return matcher.matches() || matcher.hitEnd();
    }

    int fault() {
        for (int i = 0; i < text.length(); i++) {
            String begin = text.substring(0, i + 1);
            if (!canBegin(STRICT, begin)) {
                return canBegin(ANY_NODE, begin) ? i - 1 : i;
            }
        }
        return STRICT.matcher(text).matches() ? NONE : text.length();
    }

    int type(int letter) {
        if (letter < 0 || letter > 127) {
            return BAD;
        }
        if (text.length() == 100) {
            return FULL;
        }
        text += (char) letter;
        return text.length();
    }

    int clearText() {
        int had = text.length();
        text = "";
        return had;
    }

    int read() {
        if (fault() != NONE) {
            return STATE;
        }
        List<Node> nodes = new ArrayList<>();
        for (String part : text.split(";")) {
            if (!part.isBlank()) {
                nodes.add(nodeOf(part.strip()));
            }
        }
        script = nodes;
        beginScript();
        return script.size();
    }

    private static Node nodeOf(String part) {
        int kind = LETTERS.indexOf(part.charAt(0));
        String rest = part.substring(1);
        List<Integer> numbers = new ArrayList<>();
        List<int[]> options = new ArrayList<>();
        if (kind == 6) {
            for (String option : rest.split(",")) {
                Matcher m = OPTION.matcher(option);
                m.matches();
                int lock = m.group(2) == null ? 0 : m.group(2).equals("?") ? 1 : 2;
                options.add(new int[] {Integer.parseInt(m.group(1)), lock, lock == 0 ? NONE : Integer.parseInt(m.group(3))});
            }
            numbers.add(options.size());
        } else {
            Matcher m = PART.matcher(rest);
            while (m.find()) {
                char c = m.group().charAt(0);
                numbers.add(c == '+' ? 1 : c == '-' ? 0 : c >= 'a' ? c - 'a' : Integer.parseInt(m.group()));
            }
        }
        return new Node(kind, numbers, options);
    }

    private void beginScript() {
        saved.clear();
        seen.clear();
        begin();
        ways = allWays();
    }

    private boolean exists(int node) {
        return node >= 0 && node < script.size();
    }

    private int kind(int node) {
        return exists(node) ? script.get(node).kind() : -1;
    }

    private boolean isLine(Moment moment) {
        return kind(moment.node()) == 0;
    }

    private Moment first() {
        return next(new Moment(0, 0, List.of(NONE, NONE, NONE, NONE, NONE, NONE)), 0);
    }

    private Moment next(Moment from, int start) {
        int at = start;
        int flags = from.flags();
        List<Integer> portraits = new ArrayList<>(from.portraits());
        int carried = 0;
        while (kind(at) >= 1 && kind(at) <= 5) {
            if (carried == 60) {
                return new Moment(30, flags, portraits);
            }
            carried++;
            List<Integer> n = script.get(at).numbers();
            int kind = kind(at);
            at++;
            if (kind == 1 || kind == 2) {
                for (int p = 0; p < 3; p++) {
                    if (portraits.get(2 * p).equals(n.get(0)) || kind == 1 && n.get(1) == p) {
                        portraits.set(2 * p, NONE);
                        portraits.set(2 * p + 1, NONE);
                    }
                }
                if (kind == 1) {
                    portraits.set(2 * n.get(1), n.get(0));
                    portraits.set(2 * n.get(1) + 1, n.get(2));
                }
            } else if (kind == 3) {
                flags = Integer.parseInt(bits(flags, n.get(0), n.get(1)), 2);
            } else if (kind == 4) {
                at = n.get(0);
            } else if (has(flags, n.get(0))) {
                at = n.get(1);
            }
        }
        return new Moment(at, flags, portraits);
    }

    private static String bits(int flags, int flag, int value) {
        StringBuilder bits = new StringBuilder();
        for (int f = 5; f >= 0; f--) {
            bits.append(f == flag ? value : has(flags, f) ? 1 : 0);
        }
        return bits.toString();
    }

    private static boolean has(int flags, int flag) {
        return flags / (int) Math.pow(2, flag) % 2 == 1;
    }

    private boolean open(int node, int option, int flags) {
        if (kind(node) != 6 || option >= script.get(node).options().size()) {
            return false;
        }
        int[] o = script.get(node).options().get(option);
        return o[1] == 0 || has(flags, o[2]) == (o[1] == 1);
    }

    private Moment now() {
        return moments.get(present);
    }

    private void only(Moment moment) {
        moments.clear();
        moments.add(moment);
        present = 0;
        seen.add(moment.node());
    }

    private boolean append(Moment moment) {
        while (moments.size() > present + 1) {
            moments.remove(moments.size() - 1);
        }
        moments.add(moment);
        if (moments.size() > 20) {
            moments.remove(0);
        }
        present = moments.size() - 1;
        return !seen.add(moment.node());
    }

    int begin() {
        only(first());
        return now().node();
    }

    int go() {
        if (!isLine(now())) {
            return STATE;
        }
        append(next(now(), now().node() + 1));
        return now().node();
    }

    int choose(int option) {
        if (option < 0) {
            return BAD;
        }
        if (!open(now().node(), option, now().flags())) {
            return STATE;
        }
        append(next(now(), script.get(now().node()).options().get(option)[0]));
        return now().node();
    }

    int skip() {
        if (!isLine(now())) {
            return STATE;
        }
        for (int times = 1; ; times++) {
            boolean before = append(next(now(), now().node() + 1));
            if (times == 60 || !before || !isLine(now())) {
                return times;
            }
        }
    }

    int back(int times) {
        if (times < 1 || times > 20) {
            return BAD;
        }
        if (times > present) {
            return STATE;
        }
        present -= times;
        return now().node();
    }

    int again() {
        if (present == moments.size() - 1) {
            return STATE;
        }
        present++;
        return now().node();
    }

    int save(int slot) {
        if (slot < 0 || slot > 2) {
            return BAD;
        }
        saved.put(slot, now());
        return now().node();
    }

    int restore(int slot) {
        if (slot < 0 || slot > 2) {
            return BAD;
        }
        if (!saved.containsKey(slot)) {
            return STATE;
        }
        only(saved.get(slot));
        return now().node();
    }

    private int end(int node) {
        return node == 30 ? -3 : !exists(node) ? -2 : kind(node) == 7 ? script.get(node).numbers().get(0) : NONE;
    }

    int shown(int what) {
        Moment now = now();
        boolean line = isLine(now);
        boolean choice = kind(now.node()) == 6;
        switch (what) {
            case 0:
                return now.node();
            case 1:
                return line ? 0 : choice ? 1 : 2;
            case 2:
                return line ? script.get(now.node()).numbers().get(0) : NONE;
            case 3:
                return line ? script.get(now.node()).numbers().get(1)
                        : choice ? script.get(now.node()).options().size() : end(now.node());
            case 4:
                return now.flags();
            case 5:
                int sum = 0;
                for (int o = 0; o < 4; o++) {
                    sum += open(now.node(), o, now.flags()) ? (int) Math.pow(2, o) : 0;
                }
                return choice ? sum : NONE;
            default:
                return BAD;
        }
    }

    int portrait(int place, boolean face) {
        return place < 0 || place > 2 ? BAD : now().portraits().get(2 * place + (face ? 1 : 0));
    }

    int node(int node, int what) {
        if (!exists(node) || what < 0 || what > 3) {
            return BAD;
        }
        Node n = script.get(node);
        return what == 0 ? n.kind() : what > n.numbers().size() ? NONE : n.numbers().get(what - 1);
    }

    int option(int node, int option, int what) {
        if (kind(node) != 6 || option < 0 || what < 0 || what > 2) {
            return BAD;
        }
        List<int[]> options = script.get(node).options();
        return option >= options.size() ? NONE : options.get(option)[what];
    }

    private static boolean isBetter(List<Integer> way, List<Integer> than) {
        if (than == null || way.size() != than.size()) {
            return than == null || way.size() < than.size();
        }
        return Arrays.compare(way.stream().mapToInt(i -> i).toArray(), than.stream().mapToInt(i -> i).toArray()) < 0;
    }

    private static Moment situation(Moment moment) {
        return new Moment(moment.node(), moment.flags(), List.of(NONE, NONE, NONE, NONE, NONE, NONE));
    }

    private Map<Moment, List<Integer>> allWays() {
        Map<Moment, List<Integer>> best = new HashMap<>();
        ArrayDeque<Moment> changed = new ArrayDeque<>();
        best.put(situation(first()), List.of());
        changed.add(situation(first()));
        while (!changed.isEmpty()) {
            Moment from = changed.remove();
            if (isLine(from)) {
                improve(best, changed, next(from, from.node() + 1), best.get(from));
            }
            for (int o = 0; o < 4; o++) {
                if (open(from.node(), o, from.flags())) {
                    List<Integer> way = new ArrayList<>(best.get(from));
                    way.add(o);
                    improve(best, changed, next(from, script.get(from.node()).options().get(o)[0]), way);
                }
            }
        }
        return best;
    }

    private static void improve(Map<Moment, List<Integer>> best, ArrayDeque<Moment> changed, Moment to, List<Integer> way) {
        Moment situation = situation(to);
        if (isBetter(way, best.get(situation))) {
            best.put(situation, way);
            changed.add(situation);
        }
    }

    int situations(int node) {
        return node < -1 || node > 30 ? BAD
                : (int) ways.keySet().stream().filter(s -> node == -1 || s.node() == node).count();
    }

    private List<Integer> bestWay(int end) {
        List<Integer> best = null;
        for (Moment situation : ways.keySet()) {
            if (end(situation.node()) == end && isBetter(ways.get(situation), best)) {
                best = ways.get(situation);
            }
        }
        return best;
    }

    private static boolean isEnd(int end) {
        return end >= -3 && end <= 9 && end != -1;
    }

    int choicesTo(int end) {
        if (!isEnd(end)) {
            return BAD;
        }
        List<Integer> way = bestWay(end);
        return way == null ? NONE : way.size();
    }

    int wayTo(int end, int i) {
        if (!isEnd(end) || i < 0) {
            return BAD;
        }
        List<Integer> way = bestWay(end);
        return way == null || i >= way.size() ? NONE : way.get(i);
    }

    int usable(int node, int option) {
        if (kind(node) != 6 || option < 0 || option >= script.get(node).options().size()) {
            return BAD;
        }
        return ways.keySet().stream().anyMatch(s -> s.node() == node && open(node, option, s.flags())) ? 1 : 0;
    }

    int count(int what) {
        switch (what) {
            case 0:
                return script.size();
            case 1:
                return present + 1;
            case 2:
                return moments.size() - present - 1;
            case 3:
                return seen.size();
            case 4:
                return saved.size();
            case 5:
                int ends = 0;
                for (int end = -3; end < 10; end++) {
                    ends += choicesTo(end) >= 0 ? 1 : 0;
                }
                return ends;
            case 6:
                return text.length();
            default:
                return BAD;
        }
    }

    long digest() {
        List<Integer> all = new ArrayList<>();
        for (int what = 0; what < 7; what++) {
            all.add(count(what));
        }
        for (int what = 0; what < 6; what++) {
            all.add(shown(what));
        }
        all.addAll(now().portraits());
        for (int n = 0; n < script.size(); n++) {
            for (int what = 0; what < 4; what++) {
                all.add(node(n, what));
            }
            for (int o = 0; o < script.get(n).options().size(); o++) {
                all.addAll(List.of(option(n, o, 0), option(n, o, 1), option(n, o, 2), usable(n, o)));
            }
        }
        all.add(ways.size());
        for (int end = -3; end < 10; end++) {
            if (end != -1) {
                all.add(choicesTo(end));
            }
        }
        text.chars().forEach(all::add);
        long h = 163;
        for (int v : all) {
            h = 31 * h + v;
        }
        return h;
    }
}
