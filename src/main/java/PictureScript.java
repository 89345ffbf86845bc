import java.util.Arrays;

/**
 * A script of pictures and voices, a play of it that can be turned back, and a chart of all its plays.
 * Every row is made with the object and used again, so that no call makes a new one.
 */
public final class PictureScript {
    public static final int BAD = -12, STATE = -13, FULL = -14;
    public static final int NONE = -11;

    private static final int TEXT_BYTES = 100;
    private static final int HIGHEST_BYTE = 127;

    private static final int NODES = 29;
    private static final int HIGHEST_NAMED_NODE = 29;
    private static final int HANGING_NODE = 30;
    private static final int NODE_NUMBERS = 31;
    private static final int NODE_PARTS = 3;
    private static final int OPTIONS = 4;
    private static final int OPTION_PARTS = 3;

    private static final int VOICES = 6;
    private static final int PLACES = 3;
    private static final int FACES = 5;
    private static final int FLAGS = 6;
    private static final int FLAG_SETS = 64;
    private static final int HIGHEST_LINE = 99;
    private static final int HIGHEST_END = 9;

    // The letters stand in the order of the numbers of their kinds.
    private static final String KIND_LETTERS = "sphfjtce";
    private static final int NO_KIND = -1;
    private static final int SAY = 0, PUT = 1, HIDE = 2, FLAG = 3, JUMP = 4, TEST = 5, CHOOSE = 6, END = 7;

    private static final int SHOWN_LINE = 0, SHOWN_CHOICE = 1, SHOWN_END = 2;
    private static final int MISSING_END = -2;
    private static final int HANGING_END = -3;

    private static final int TARGET = 0, LOCK = 1, LOCK_FLAG = 2;
    private static final int OPEN = 0, NEEDS_FLAG = 1, FORBIDS_FLAG = 2;

    private static final int CARRIED_AT_MOST = 60;
    private static final int SKIPPED_AT_MOST = 60;
    private static final int MOMENTS = 20;
    private static final int SLOTS = 3;

    private static final int SITUATIONS = NODE_NUMBERS * FLAG_SETS;
    private static final int ENDS = 12;
    private static final int NOWHERE = -1;

    private static final long FIRST_DIGEST = 163;
    private static final int COUNTS = 7;
    private static final int SHOWN_PARTS = 6;

    private final Text text = new Text();
    private Script script = new Script();
    private final Play play = new Play();
    private final Chart chart = new Chart();

    public PictureScript() {
        play.startScript(script);
        chart.draw(script);
    }

    public int type(int letter) {
        if (letter < 0 || letter > HIGHEST_BYTE) {
            return BAD;
        }
        return text.append((byte) letter) ? text.length : FULL;
    }

    public int clearText() {
        int had = text.length;
        text.length = 0;
        return had;
    }

    public int fault() {
        return text.findFault();
    }

    public int read() {
        if (text.findFault() != NONE) {
            return STATE;
        }
        Script old = script;
        script = text.draft;
        text.draft = old;
        play.startScript(script);
        chart.draw(script);
        return script.nodes;
    }

    public int begin() {
        play.startAnew(script);
        return play.now().node;
    }

    public int go() {
        if (!isLineShown()) {
            return STATE;
        }
        goOnFromLine();
        return play.now().node;
    }

    public int choose(int option) {
        if (option < 0) {
            return BAD;
        }
        Moment now = play.now();
        if (!script.isOpen(now.node, option, now.flags)) {
            return STATE;
        }
        play.goOn(script, script.optionPart(now.node, option, TARGET));
        return play.now().node;
    }

    public int skip() {
        if (!isLineShown()) {
            return STATE;
        }
        int times = 0;
        boolean seenBefore = true;
        while (times < SKIPPED_AT_MOST && seenBefore && isLineShown()) {
            seenBefore = goOnFromLine();
            times++;
        }
        return times;
    }

    public int back(int moments) {
        if (moments < 1 || moments > MOMENTS) {
            return BAD;
        }
        return play.turnBack(moments) ? play.now().node : STATE;
    }

    public int again() {
        return play.turnForth() ? play.now().node : STATE;
    }

    public int save(int slot) {
        if (slot < 0 || slot >= SLOTS) {
            return BAD;
        }
        play.keepIn(slot);
        return play.now().node;
    }

    public int restore(int slot) {
        if (slot < 0 || slot >= SLOTS) {
            return BAD;
        }
        return play.takeFrom(slot) ? play.now().node : STATE;
    }

    public int shown(int what) {
        Moment now = play.now();
        switch (what) {
            case 0:
                return now.node;
            case 1:
                return script.shownKind(now.node);
            case 2:
                return isLineShown() ? script.numberOf(now.node, 0) : NONE;
            case 3:
                return script.shownNumber(now.node);
            case 4:
                return now.flags;
            case 5:
                return script.openOptions(now.node, now.flags);
            default:
                return BAD;
        }
    }

    public int portrait(int place, boolean face) {
        if (place < 0 || place >= PLACES) {
            return BAD;
        }
        Moment now = play.now();
        return face ? now.faces[place] : now.voices[place];
    }

    public int node(int node, int what) {
        if (!script.has(node) || what < 0 || what > NODE_PARTS) {
            return BAD;
        }
        return what == 0 ? script.kindOf(node) : script.numberOf(node, what - 1);
    }

    public int option(int node, int option, int what) {
        if (script.kindOf(node) != CHOOSE || option < 0 || what < 0 || what >= OPTION_PARTS) {
            return BAD;
        }
        return script.optionPart(node, option, what);
    }

    public int situations(int node) {
        if (node < -1 || node >= NODE_NUMBERS) {
            return BAD;
        }
        return node == -1 ? chart.reached : chart.reachedWith(node);
    }

    public int choicesTo(int end) {
        int index = endIndex(end);
        return index == NOWHERE ? BAD : chart.wayLength(index);
    }

    public int wayTo(int end, int i) {
        int index = endIndex(end);
        if (index == NOWHERE || i < 0) {
            return BAD;
        }
        return chart.wayChoice(index, i);
    }

    public int usable(int node, int option) {
        if (option < 0 || option >= script.optionsOf(node)) {
            return BAD;
        }
        return chart.canUse(script, node, option) ? 1 : 0;
    }

    public int count(int what) {
        switch (what) {
            case 0:
                return script.nodes;
            case 1:
                return play.present + 1;
            case 2:
                return play.kept - play.present - 1;
            case 3:
                return play.seenNodes();
            case 4:
                return play.usedSlots();
            case 5:
                return chart.reachedEnds();
            case 6:
                return text.length;
            default:
                return BAD;
        }
    }

    public long digest() {
        long h = FIRST_DIGEST;
        for (int what = 0; what < COUNTS; what++) {
            h = 31 * h + count(what);
        }
        for (int what = 0; what < SHOWN_PARTS; what++) {
            h = 31 * h + shown(what);
        }
        for (int place = 0; place < PLACES; place++) {
            h = 31 * h + portrait(place, false);
            h = 31 * h + portrait(place, true);
        }
        for (int node = 0; node < script.nodes; node++) {
            h = digestNode(h, node);
        }
        h = 31 * h + situations(-1);
        for (int index = 0; index < ENDS; index++) {
            h = 31 * h + chart.wayLength(index);
        }
        for (int i = 0; i < text.length; i++) {
            h = 31 * h + text.byteAt(i);
        }
        return h;
    }

    private long digestNode(long before, int node) {
        long h = before;
        for (int what = 0; what <= NODE_PARTS; what++) {
            h = 31 * h + node(node, what);
        }
        for (int option = 0; option < script.optionsOf(node); option++) {
            for (int what = 0; what < OPTION_PARTS; what++) {
                h = 31 * h + option(node, option, what);
            }
            h = 31 * h + usable(node, option);
        }
        return h;
    }

    private boolean isLineShown() {
        return script.shownKind(play.now().node) == SHOWN_LINE;
    }

    /** Tells whether the node that is shown then was seen before. */
    private boolean goOnFromLine() {
        return play.goOn(script, play.now().node + 1);
    }

    /** The ends in the order of the digest: -3, -2, 0 to 9. */
    private static int endIndex(int end) {
        if (end == HANGING_END) {
            return 0;
        }
        if (end == MISSING_END) {
            return 1;
        }
        return end >= 0 && end <= HIGHEST_END ? end + 2 : NOWHERE;
    }

    /** The nodes that were read from a text. */
    private static final class Script {
        int nodes;
        private final int[] kinds = new int[NODES];
        private final int[] numberCounts = new int[NODES];
        private final int[] numbers = new int[NODES * NODE_PARTS];
        private final int[] optionCounts = new int[NODES];
        private final int[] optionParts = new int[NODES * OPTIONS * OPTION_PARTS];

        void clear() {
            nodes = 0;
        }

        void addNode(int kind) {
            if (nodes >= 0 && nodes < NODES) {
                kinds[nodes] = kind;
                numberCounts[nodes] = 0;
                optionCounts[nodes] = 0;
                nodes++;
            }
        }

        /** Adds a number to the last node. */
        void addNumber(int number) {
            int node = nodes - 1;
            if (!has(node)) {
                return;
            }
            int count = numberCounts[node];
            if (count >= 0 && count < NODE_PARTS) {
                numbers[node * NODE_PARTS + count] = number;
                numberCounts[node] = count + 1;
            }
        }

        /** Adds an option to the last node. */
        void addOption(int target, int lock, int lockFlag) {
            int node = nodes - 1;
            if (!has(node)) {
                return;
            }
            int count = optionCounts[node];
            if (count >= 0 && count < OPTIONS) {
                int first = (node * OPTIONS + count) * OPTION_PARTS;
                optionParts[first + TARGET] = target;
                optionParts[first + LOCK] = lock;
                optionParts[first + LOCK_FLAG] = lockFlag;
                optionCounts[node] = count + 1;
            }
        }

        boolean has(int node) {
            return node >= 0 && node < nodes && node < NODES;
        }

        int kindOf(int node) {
            return has(node) ? kinds[node] : NO_KIND;
        }

        int optionsOf(int node) {
            return has(node) ? optionCounts[node] : 0;
        }

        /** A number of a node, from 0; NONE if it has not so many. */
        int numberOf(int node, int i) {
            if (!has(node) || i < 0 || i >= NODE_PARTS) {
                return NONE;
            }
            if (kinds[node] == CHOOSE) {
                return i == 0 ? optionCounts[node] : NONE;
            }
            return i < numberCounts[node] ? numbers[node * NODE_PARTS + i] : NONE;
        }

        /** A part of an option; NONE if there is no such option. */
        int optionPart(int node, int option, int what) {
            if (!has(node) || option < 0 || option >= optionCounts[node] || option >= OPTIONS) {
                return NONE;
            }
            if (what < 0 || what >= OPTION_PARTS) {
                return NONE;
            }
            return optionParts[(node * OPTIONS + option) * OPTION_PARTS + what];
        }

        /** Whether there is such an option and it is not locked. */
        boolean isOpen(int node, int option, int flags) {
            if (option < 0 || option >= optionsOf(node)) {
                return false;
            }
            int lock = optionPart(node, option, LOCK);
            if (lock == OPEN) {
                return true;
            }
            boolean isSet = (flags >> optionPart(node, option, LOCK_FLAG) & 1) == 1;
            return isSet == (lock == NEEDS_FLAG);
        }

        /** The sum of the powers of 2 with the open options; NONE if the node is no choice. */
        int openOptions(int node, int flags) {
            if (kindOf(node) != CHOOSE) {
                return NONE;
            }
            int open = 0;
            for (int option = 0; option < OPTIONS; option++) {
                if (isOpen(node, option, flags)) {
                    open |= 1 << option;
                }
            }
            return open;
        }

        boolean isShown(int node) {
            int kind = kindOf(node);
            return kind == NO_KIND || kind == SAY || kind == CHOOSE || kind == END;
        }

        /** What a node is when it is shown: one that does not exist is an end. */
        int shownKind(int node) {
            int kind = kindOf(node);
            if (kind == SAY) {
                return SHOWN_LINE;
            }
            return kind == CHOOSE ? SHOWN_CHOICE : SHOWN_END;
        }

        /** The line, the number of options, or the end of a node that is shown. */
        int shownNumber(int node) {
            if (node == HANGING_NODE) {
                return HANGING_END;
            }
            if (!has(node)) {
                return MISSING_END;
            }
            return numberOf(node, kindOf(node) == SAY ? 1 : 0);
        }
    }

    /** The text, and its reading as a script. Where a function answers false, the reading stands at the fault. */
    private static final class Text {
        int length;
        private final byte[] bytes = new byte[TEXT_BYTES];
        // A text with a fault must leave the script that is played as it was.
        Script draft = new Script();
        private int at;
        private int number;

        /** Answers false if the text is full. */
        boolean append(byte letter) {
            if (length < 0 || length >= TEXT_BYTES) {
                return false;
            }
            bytes[length] = letter;
            length++;
            return true;
        }

        int byteAt(int i) {
            return i >= 0 && i < length && i < TEXT_BYTES ? bytes[i] : 0;
        }

        /** Reads the text into the draft, which is of use only if there is no fault. */
        int findFault() {
            at = 0;
            draft.clear();
            for (int node = 0; node < NODES; node++) {
                skipBlanks();
                if (isAtEnd()) {
                    return NONE;
                }
                if (!takeNode() || !takeSign(';')) {
                    return at;
                }
            }
            skipBlanks();
            return isAtEnd() ? NONE : at;
        }

        private boolean takeNode() {
            int kind = KIND_LETTERS.indexOf((char) here());
            if (kind == NO_KIND) {
                return false;
            }
            at++;
            draft.addNode(kind);
            switch (kind) {
                case SAY:
                    return addVoice() && addNumber(HIGHEST_LINE);
                case PUT:
                    return addVoice() && addDigit(PLACES - 1) && addDigit(FACES - 1);
                case HIDE:
                    return addVoice();
                case FLAG:
                    return addDigit(FLAGS - 1) && addPlusOrMinus();
                case JUMP:
                    return addNumber(HIGHEST_NAMED_NODE);
                case TEST:
                    return addDigit(FLAGS - 1) && addNumber(HIGHEST_NAMED_NODE);
                case CHOOSE:
                    return takeOptions();
                default:
                    return addDigit(HIGHEST_END);
            }
        }

        private boolean takeOptions() {
            for (int option = 0; option < OPTIONS; option++) {
                if (!takeOption()) {
                    return false;
                }
                if (!takeSign(',')) {
                    // What else may follow is for the caller to say.
                    return true;
                }
            }
            // The comma behind the last option can stand, but nothing behind it can.
            skipBlanks();
            return false;
        }

        private boolean takeOption() {
            if (!takeNumber(HIGHEST_NAMED_NODE)) {
                return false;
            }
            int target = number;
            boolean needsFlag = takeSign('?');
            if (!needsFlag && !takeSign('!')) {
                draft.addOption(target, OPEN, NONE);
                return true;
            }
            if (!takeDigit(FLAGS - 1)) {
                return false;
            }
            draft.addOption(target, needsFlag ? NEEDS_FLAG : FORBIDS_FLAG, number);
            return true;
        }

        private boolean addVoice() {
            skipBlanks();
            int voice = here() - 'a';
            if (voice < 0 || voice >= VOICES) {
                return false;
            }
            draft.addNumber(voice);
            at++;
            return true;
        }

        private boolean addPlusOrMinus() {
            boolean plus = takeSign('+');
            if (!plus && !takeSign('-')) {
                return false;
            }
            draft.addNumber(plus ? 1 : 0);
            return true;
        }

        private boolean addDigit(int highest) {
            if (!takeDigit(highest)) {
                return false;
            }
            draft.addNumber(number);
            return true;
        }

        private boolean addNumber(int highest) {
            if (!takeNumber(highest)) {
                return false;
            }
            draft.addNumber(number);
            return true;
        }

        /** A number of one digit. */
        private boolean takeDigit(int highest) {
            skipBlanks();
            number = here() - '0';
            if (number < 0 || number > highest) {
                return false;
            }
            at++;
            return !isAtDigit();
        }

        /** A number of one or two digits. */
        private boolean takeNumber(int highest) {
            skipBlanks();
            int first = at;
            if (!isAtDigit()) {
                return false;
            }
            number = here() - '0';
            at++;
            if (isAtDigit()) {
                number = 10 * number + here() - '0';
                at++;
            }
            if (number > highest) {
                // Of a number that is too high the first digit is the fault, even if a third follows.
                at = first;
                return false;
            }
            return !isAtDigit();
        }

        private boolean takeSign(char sign) {
            skipBlanks();
            if (here() != sign) {
                return false;
            }
            at++;
            return true;
        }

        private void skipBlanks() {
            while (at < length && here() == ' ') {
                at++;
            }
        }

        private boolean isAtDigit() {
            return here() >= '0' && here() <= '9';
        }

        private boolean isAtEnd() {
            return at >= length;
        }

        /** The byte at which the reading stands; behind the last one 0, which can stand nowhere. */
        private int here() {
            return at >= 0 && at < length && at < TEXT_BYTES ? bytes[at] : 0;
        }
    }

    /** A node that is shown, what stands at the places then, and the flags. */
    private static final class Moment {
        int node;
        int flags;
        final int[] voices = new int[PLACES];
        final int[] faces = new int[PLACES];

        void makeEmpty() {
            node = 0;
            flags = 0;
            Arrays.fill(voices, NONE);
            Arrays.fill(faces, NONE);
        }

        void makeLike(Moment other) {
            node = other.node;
            flags = other.flags;
            System.arraycopy(other.voices, 0, voices, 0, PLACES);
            System.arraycopy(other.faces, 0, faces, 0, PLACES);
        }

        /** Carries nodes out, from one on, until one is shown. */
        void comeFrom(Script script, int first) {
            int next = first;
            for (int carried = 0; carried < CARRIED_AT_MOST && !script.isShown(next); carried++) {
                next = carryOut(script, next);
            }
            node = script.isShown(next) ? next : HANGING_NODE;
        }

        /** Answers the node to which the play goes then. */
        private int carryOut(Script script, int at) {
            int first = script.numberOf(at, 0);
            int second = script.numberOf(at, 1);
            switch (script.kindOf(at)) {
                case PUT:
                    putAt(second, first, script.numberOf(at, 2));
                    return at + 1;
                case HIDE:
                    hide(first);
                    return at + 1;
                case FLAG:
                    flags = second == 1 ? flags | 1 << first : flags & ~(1 << first);
                    return at + 1;
                case JUMP:
                    return first;
                case TEST:
                    return (flags >> first & 1) == 1 ? second : at + 1;
                default:
                    return at + 1;
            }
        }

        private void putAt(int place, int voice, int face) {
            hide(voice);
            if (place >= 0 && place < PLACES) {
                voices[place] = voice;
                faces[place] = face;
            }
        }

        private void hide(int voice) {
            for (int place = 0; place < PLACES; place++) {
                if (voices[place] == voice) {
                    voices[place] = NONE;
                    faces[place] = NONE;
                }
            }
        }
    }

    /** The moments that are kept, those that are saved, and the nodes that are seen. */
    private static final class Play {
        private final Moment[] moments = new Moment[MOMENTS];
        int kept;
        int present;
        private final Moment[] saved = new Moment[SLOTS];
        private final boolean[] isSaved = new boolean[SLOTS];
        private final boolean[] seen = new boolean[NODE_NUMBERS];

        Play() {
            for (int i = 0; i < MOMENTS; i++) {
                moments[i] = new Moment();
            }
            for (int slot = 0; slot < SLOTS; slot++) {
                saved[slot] = new Moment();
            }
        }

        Moment now() {
            return moments[present >= 0 && present < MOMENTS ? present : 0];
        }

        void startScript(Script script) {
            for (int slot = 0; slot < SLOTS; slot++) {
                isSaved[slot] = false;
            }
            for (int node = 0; node < NODE_NUMBERS; node++) {
                seen[node] = false;
            }
            startAnew(script);
        }

        void startAnew(Script script) {
            keepOneMoment();
            now().makeEmpty();
            now().comeFrom(script, 0);
            see(now().node);
        }

        /** Adds a moment behind the present one; tells whether its node was seen before. */
        boolean goOn(Script script, int next) {
            Moment last = now();
            if (present + 1 < MOMENTS) {
                present++;
            } else {
                forgetEarliest();
            }
            kept = present + 1;
            now().makeLike(last);
            now().comeFrom(script, next);
            return see(now().node);
        }

        boolean turnBack(int times) {
            if (times < 0 || times > present) {
                return false;
            }
            present -= times;
            return true;
        }

        boolean turnForth() {
            if (present + 1 >= kept) {
                return false;
            }
            present++;
            return true;
        }

        void keepIn(int slot) {
            if (slot >= 0 && slot < SLOTS) {
                saved[slot].makeLike(now());
                isSaved[slot] = true;
            }
        }

        boolean takeFrom(int slot) {
            if (slot < 0 || slot >= SLOTS || !isSaved[slot]) {
                return false;
            }
            keepOneMoment();
            now().makeLike(saved[slot]);
            return true;
        }

        int seenNodes() {
            int nodes = 0;
            for (int node = 0; node < NODE_NUMBERS; node++) {
                nodes += seen[node] ? 1 : 0;
            }
            return nodes;
        }

        int usedSlots() {
            int used = 0;
            for (int slot = 0; slot < SLOTS; slot++) {
                used += isSaved[slot] ? 1 : 0;
            }
            return used;
        }

        private void keepOneMoment() {
            kept = 1;
            present = 0;
        }

        /** The earliest moment's row goes behind all others, to be written anew. */
        private void forgetEarliest() {
            Moment earliest = moments[0];
            for (int i = 1; i < MOMENTS; i++) {
                moments[i - 1] = moments[i];
            }
            moments[MOMENTS - 1] = earliest;
        }

        /** Tells whether the node was seen before. */
        private boolean see(int node) {
            if (node < 0 || node >= NODE_NUMBERS) {
                return false;
            }
            boolean before = seen[node];
            seen[node] = true;
            return before;
        }
    }

    /**
     * All situations that plays can come to. They are found in the order of the sequences of options that
     * lead to them, shorter ones first and least ones first among the equally long: so the first way that is
     * found to a situation, or to an end, is the one that the chart tells.
     */
    private static final class Chart {
        int reached;
        private final int[] choices = new int[SITUATIONS];
        private final int[] lastChoice = new int[SITUATIONS];
        private final int[] lastOption = new int[SITUATIONS];
        private final int[] waiting = new int[SITUATIONS];
        private int waitingCount;
        private final int[] endSituation = new int[ENDS];
        private final Moment moment = new Moment();

        void draw(Script script) {
            reached = 0;
            waitingCount = 0;
            Arrays.fill(choices, NOWHERE);
            Arrays.fill(endSituation, NOWHERE);
            moment.makeEmpty();
            follow(script, 0, NOWHERE, NOWHERE);
            for (int i = 0; i < waitingCount && i < SITUATIONS; i++) {
                int choice = waiting[i];
                int node = nodeOf(choice);
                for (int option = 0; option < OPTIONS; option++) {
                    if (script.isOpen(node, option, flagsOf(choice))) {
                        moment.flags = flagsOf(choice);
                        follow(script, script.optionPart(node, option, TARGET), choice, option);
                    }
                }
            }
        }

        int reachedWith(int node) {
            int found = 0;
            for (int flags = 0; flags < FLAG_SETS; flags++) {
                found += isReached(node, flags) ? 1 : 0;
            }
            return found;
        }

        int reachedEnds() {
            int ends = 0;
            for (int end = 0; end < ENDS; end++) {
                ends += endSituation[end] != NOWHERE ? 1 : 0;
            }
            return ends;
        }

        int wayLength(int end) {
            if (end < 0 || end >= ENDS || !isSituation(endSituation[end])) {
                return NONE;
            }
            return choices[endSituation[end]];
        }

        int wayChoice(int end, int i) {
            int length = wayLength(end);
            if (i < 0 || i >= length) {
                return NONE;
            }
            int situation = endSituation[end];
            for (int later = length - 1; later > i && isSituation(situation); later--) {
                situation = lastChoice[situation];
            }
            return isSituation(situation) ? lastOption[situation] : NONE;
        }

        boolean canUse(Script script, int node, int option) {
            for (int flags = 0; flags < FLAG_SETS; flags++) {
                if (isReached(node, flags) && script.isOpen(node, option, flags)) {
                    return true;
                }
            }
            return false;
        }

        /** Goes on from a choice, or from the beginning, over lines, as far as no situation was reached before. */
        private void follow(Script script, int first, int choice, int option) {
            int made = isSituation(choice) ? choices[choice] + 1 : 0;
            int next = first;
            for (int steps = 0; steps < SITUATIONS; steps++) {
                moment.comeFrom(script, next);
                int situation = moment.node * FLAG_SETS + moment.flags;
                if (!isSituation(situation) || choices[situation] != NOWHERE) {
                    return;
                }
                reached++;
                choices[situation] = made;
                lastChoice[situation] = choice;
                lastOption[situation] = option;
                if (script.shownKind(moment.node) != SHOWN_LINE) {
                    arrive(script, situation);
                    return;
                }
                next = moment.node + 1;
            }
        }

        /** Notes a choice to be gone on from later, or the first way to an end. */
        private void arrive(Script script, int situation) {
            int node = nodeOf(situation);
            if (script.shownKind(node) == SHOWN_CHOICE) {
                if (waitingCount >= 0 && waitingCount < SITUATIONS) {
                    waiting[waitingCount] = situation;
                    waitingCount++;
                }
                return;
            }
            int end = endIndex(script.shownNumber(node));
            if (end >= 0 && end < ENDS && endSituation[end] == NOWHERE) {
                endSituation[end] = situation;
            }
        }

        private boolean isReached(int node, int flags) {
            int situation = node * FLAG_SETS + flags;
            return isSituation(situation) && choices[situation] != NOWHERE;
        }

        private static boolean isSituation(int situation) {
            return situation >= 0 && situation < SITUATIONS;
        }

        private static int nodeOf(int situation) {
            return situation / FLAG_SETS;
        }

        private static int flagsOf(int situation) {
            return situation % FLAG_SETS;
        }
    }
}
