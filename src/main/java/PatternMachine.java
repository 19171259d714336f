import java.util.Arrays;
import java.util.NoSuchElementException;

/**
 * Patterns for texts: they are read strictly, made into a machine whose threads go along a text side by
 * side in the order of preference, and found with what their groups have caught; texts are searched,
 * counted, cut and rewritten by templates.
 */
public final class PatternMachine {
    private static final int LINE_ROOM = 40;
    private static final int TEXT_ROOM = 80;
    private static final int MOST_GROUPS = 4;
    private static final int MOST_NESTED = 8;
    private static final int MOST_TIMES = 5;
    private static final int MOST_SIZE = 120;

    private static final int ANY_CASE = 1;
    private static final int BY_LINES = 2;
    private static final int DOT_IS_ALL = 4;
    private static final int ALL_FLAGS = 7;

    private static final char NEW_LINE = 10;
    private static final int NONE = -1;
    private static final int ENDLESS = -1;

    // A set of characters is two words of bits: the codes below 64, and those from 64 on.
    private static final long DIGITS = 0x03FF000000000000L;
    private static final long BLANKS = 0x0000000100000400L;
    private static final long WORD_LETTERS = 0x07FFFFFE87FFFFFEL;
    private static final long CAPITALS = 0x0000000007FFFFFEL;
    private static final long SMALL_LETTERS = 0x07FFFFFE00000000L;
    private static final int WORD_BITS = 64;
    private static final int TO_SMALL = 32;

    // Kinds of nodes.
    private static final int SIGN = 0;
    private static final int ASSERTION = 1;
    private static final int PATTERN = 2;
    private static final int CHAIN = 3;
    private static final int GROUP = 4;
    private static final int COUNT = 5;

    // Kinds of assertions.
    private static final int TEXT_BEGIN = 0;
    private static final int TEXT_END = 1;
    private static final int LINE_BEGIN = 2;
    private static final int LINE_END = 3;
    private static final int WORD_EDGE = 4;
    private static final int NO_WORD_EDGE = 5;

    // Kinds of steps.
    private static final int TAKE = 0;
    private static final int CHECK = 1;
    private static final int CATCH = 2;
    private static final int FORK = 3;
    private static final int FORK_LAZY = 4;
    private static final int JUMP = 5;
    private static final int LOOP = 6;
    private static final int DONE = 7;

    // A character gives at most one node, the ( of a GROUP one more; the whole pattern gives two.
    private static final int NODE_ROOM = LINE_ROOM + MOST_GROUPS + 2;
    // From one bracket down to the next one it is at most four nodes: pattern, chain, count and group.
    private static final int TREE_DEPTH = 40;
    // SIZE counts just the steps that are written; one more ends them.
    private static final int STEP_ROOM = MOST_SIZE + 1;
    // A star lies in at most eight brackets, so that none, one, .. nine stars are open at a step.
    private static final int LEVELS = MOST_NESTED + 2;
    private static final int SLOTS = 2 * (MOST_GROUPS + 1);
    // Each step is gone through once for each level at a place, and leaves one more waiting than it took.
    private static final int WAITING_ROOM = STEP_ROOM * LEVELS + 2;

    private final Row line;
    private final Row body;
    private final Row spare;
    private final Reader reader;
    private final Program program;
    private final Machine machine;
    private boolean hasPattern;
    private boolean found;

    public PatternMachine() {
        line = new Row(LINE_ROOM);
        body = new Row(TEXT_ROOM);
        spare = new Row(TEXT_ROOM);
        reader = new Reader(line);
        program = new Program();
        machine = new Machine(program, body);
    }

    public boolean type(char c) {
        boolean allowed = c == NEW_LINE || (c >= 32 && c <= 126);
        return allowed && line.put(c);
    }

    public void wipe() {
        line.length = 0;
    }

    public int compile(int flags) throws IllegalArgumentException, UnsupportedOperationException {
        Node pattern = reader.read(flags & ALL_FLAGS);
        if (pattern == null) {
            throw new IllegalArgumentException("the line is no pattern");
        }
        if (pattern.size > MOST_SIZE) {
            throw new UnsupportedOperationException("the pattern is too large");
        }
        program.write(pattern, reader.groups);
        line.length = 0;
        hasPattern = true;
        found = false;
        return pattern.size;
    }

    public int text() {
        body.putPart(line, 0, line.length);
        line.length = 0;
        found = false;
        return body.length;
    }

    public void clear() {
        body.length = 0;
        found = false;
    }

    public boolean find(int from) throws IllegalStateException, IndexOutOfBoundsException {
        needPattern();
        if (from < 0 || from > body.length) {
            throw new IndexOutOfBoundsException("the place is not in the text");
        }
        found = machine.search(from, false);
        return found;
    }

    public boolean matches() throws IllegalStateException {
        needPattern();
        found = machine.search(0, true);
        return found;
    }

    public int group(int k, boolean end) throws IllegalStateException, IndexOutOfBoundsException {
        if (!found) {
            throw new IllegalStateException("nothing was found");
        }
        if (k < 0 || k > program.groups) {
            throw new IndexOutOfBoundsException("the pattern has no such group");
        }
        return end ? machine.endOf(k) : machine.beginOf(k);
    }

    public int count() throws IllegalStateException {
        needPattern();
        found = false;
        int places = 0;
        int from = 0;
        for (int turn = 0; turn <= TEXT_ROOM && machine.search(from, false); turn++) {
            places++;
            from = machine.goOn();
        }
        return places;
    }

    public int replace() throws IllegalStateException, IllegalArgumentException {
        needPattern();
        if (!isTemplate()) {
            throw new IllegalArgumentException("a $ is not as it must be");
        }
        found = false;
        spare.length = 0;
        int places = 0;
        int from = 0;
        int copied = 0;
        for (int turn = 0; turn <= TEXT_ROOM && machine.search(from, false); turn++) {
            places++;
            spare.putPart(body, copied, machine.beginOf(0));
            putTemplate();
            copied = machine.endOf(0);
            from = machine.goOn();
        }
        spare.putPart(body, copied, body.length);
        body.length = 0;
        body.putPart(spare, 0, spare.length);
        line.length = 0;
        return places;
    }

    public int piece(int n, int k)
            throws IllegalStateException, NoSuchElementException, IndexOutOfBoundsException {
        needPattern();
        found = false;
        int begin = 0;
        int passed = 0;
        boolean more = machine.search(0, false);
        while (passed < n && passed <= TEXT_ROOM && more) {
            begin = machine.endOf(0);
            more = machine.search(machine.goOn(), false);
            passed++;
        }
        if (n != passed) {
            throw new NoSuchElementException("there is no such piece");
        }
        int length = (more ? machine.beginOf(0) : body.length) - begin;
        if (k < -1 || k >= length) {
            throw new IndexOutOfBoundsException("the piece has no such character");
        }
        return k == -1 ? length : body.at(begin + k);
    }

    public int character(int k) {
        return body.at(k);
    }

    public int look(int what) {
        switch (what) {
            case 0:
                return program.groups;
            case 1:
                return line.length;
            case 2:
                return body.length;
            case 3:
                return found ? 1 : 0;
            default:
                return -1;
        }
    }

    private void needPattern() {
        if (!hasPattern) {
            throw new IllegalStateException("there is no pattern");
        }
    }

    private boolean isTemplate() {
        for (int i = 0; i < line.length; i++) {
            if (line.at(i) == '$') {
                i++;
                int c = line.at(i);
                boolean isGroup = c >= '0' && c <= '0' + program.groups;
                if (c != '$' && !isGroup) {
                    return false;
                }
            }
        }
        return true;
    }

    private void putTemplate() {
        for (int i = 0; i < line.length; i++) {
            char c = line.signs[i];
            if (c != '$') {
                spare.put(c);
            } else {
                i++;
                putMarked(line.at(i));
            }
        }
    }

    private void putMarked(int mark) {
        if (mark == '$') {
            spare.put('$');
        } else {
            int group = mark - '0';
            spare.putPart(body, machine.beginOf(group), machine.endOf(group));
        }
    }

    private static boolean contains(long below, long above, int c) {
        if (c < 0 || c >= 2 * WORD_BITS) {
            return false;
        }
        long word = c < WORD_BITS ? below : above;
        return (word >>> (c % WORD_BITS) & 1L) != 0;
    }

    /** Characters in a room that does not grow. */
    private static final class Row {
        final char[] signs;
        int length;

        Row(int room) {
            signs = new char[room];
        }

        int at(int k) {
            return k >= 0 && k < length ? signs[k] : NONE;
        }

        boolean put(char c) {
            if (length >= signs.length) {
                return false;
            }
            signs[length] = c;
            length++;
            return true;
        }

        /** What there is no room for is lost; a group that is not there (-1 to -1) puts nothing. */
        void putPart(Row from, int begin, int end) {
            int last = Math.min(end, from.length);
            for (int i = Math.max(begin, 0); i < last; i++) {
                put(from.signs[i]);
            }
        }
    }

    /** A part of a pattern as it was read; what it is made of hangs on it as a chain. */
    private static final class Node {
        int kind;
        Node first;
        Node last;
        Node next;
        /** The number of a GROUP, or the kind of an ASSERTION. */
        int number;
        int low;
        int high;
        boolean lazy;
        long below;
        long above;
        int size;

        void begin(int newKind) {
            kind = newKind;
            first = null;
            last = null;
            next = null;
            size = 0;
        }

        void append(Node part) {
            if (last == null) {
                first = part;
            } else {
                last.next = part;
            }
            last = part;
            size += part.size;
        }
    }

    /** Reads the line; null and false say that it is no PATTERN. */
    private static final class Reader {
        final Row line;
        final Node[] nodes;
        int used;
        int at;
        int flags;
        int groups;
        long below;
        long above;

        Reader(Row line) {
            this.line = line;
            nodes = new Node[NODE_ROOM];
            for (int i = 0; i < NODE_ROOM; i++) {
                nodes[i] = new Node();
            }
        }

        Node read(int newFlags) {
            used = 0;
            at = 0;
            groups = 0;
            flags = newFlags;
            Node pattern = readPattern(0);
            return at == line.length ? pattern : null;
        }

        private Node fresh(int kind) {
            if (used >= NODE_ROOM) {
                return null;
            }
            Node node = nodes[used];
            used++;
            node.begin(kind);
            return node;
        }

        private boolean skip(char c) {
            if (line.at(at) != c) {
                return false;
            }
            at++;
            return true;
        }

        private Node readPattern(int nested) {
            Node pattern = fresh(PATTERN);
            if (pattern == null) {
                return null;
            }
            for (int turn = 0; turn <= LINE_ROOM; turn++) {
                Node chain = readChain(nested);
                if (chain == null) {
                    return null;
                }
                pattern.append(chain);
                if (!skip('|')) {
                    break;
                }
                pattern.size += 2;
            }
            return pattern;
        }

        private Node readChain(int nested) {
            Node chain = fresh(CHAIN);
            if (chain == null) {
                return null;
            }
            for (int turn = 0; turn < LINE_ROOM && !chainEnds(); turn++) {
                Node piece = readPiece(nested);
                if (piece == null) {
                    return null;
                }
                chain.append(piece);
            }
            return chain;
        }

        private boolean chainEnds() {
            int c = line.at(at);
            return c == NONE || c == '|' || c == ')';
        }

        private Node readPiece(int nested) {
            int assertion = skipAssertion();
            if (assertion != NONE) {
                Node node = fresh(ASSERTION);
                if (node != null) {
                    node.number = assertion;
                    node.size = 1;
                }
                return node;
            }
            Node atom = readAtom(nested);
            return atom == null ? null : readCount(atom);
        }

        private int skipAssertion() {
            boolean byLines = (flags & BY_LINES) != 0;
            if (skip('^')) {
                return byLines ? LINE_BEGIN : TEXT_BEGIN;
            }
            if (skip('$')) {
                return byLines ? LINE_END : TEXT_END;
            }
            int escaped = line.at(at) == '\\' ? line.at(at + 1) : NONE;
            if (escaped != 'b' && escaped != 'B') {
                return NONE;
            }
            at += 2;
            return escaped == 'b' ? WORD_EDGE : NO_WORD_EDGE;
        }

        private Node readAtom(int nested) {
            below = 0;
            above = 0;
            int c = line.at(at);
            at++;
            switch (c) {
                case '(':
                    return readBracket(nested);
                case '[':
                    return readSet();
                case '\\':
                    return readEscape();
                case '.':
                    if ((flags & DOT_IS_ALL) == 0) {
                        add(NEW_LINE);
                    }
                    return sign(true);
                case '*':
                case '+':
                case '?':
                case '{':
                    return null;
                default:
                    add(c);
                    return sign(false);
            }
        }

        private Node readBracket(int nested) {
            if (nested >= MOST_NESTED) {
                return null;
            }
            if (skip('?')) {
                return skip(':') ? readInside(nested) : null;
            }
            if (groups >= MOST_GROUPS) {
                return null;
            }
            groups++;
            int number = groups;
            Node inside = readInside(nested);
            Node group = inside == null ? null : fresh(GROUP);
            if (group != null) {
                group.number = number;
                group.append(inside);
                group.size += 2;
            }
            return group;
        }

        private Node readInside(int nested) {
            Node inside = readPattern(nested + 1);
            return inside != null && skip(')') ? inside : null;
        }

        private Node readEscape() {
            int c = line.at(at);
            at++;
            boolean others = c == 'D' || c == 'W' || c == 'S';
            return addEscaped(others ? c + TO_SMALL : c) ? sign(others) : null;
        }

        private Node readSet() {
            boolean others = skip('^');
            int begin = at;
            for (int turn = 0; turn < LINE_ROOM && line.at(at) != ']'; turn++) {
                if (!readItem()) {
                    return null;
                }
            }
            boolean hasItems = at > begin;
            return hasItems && skip(']') ? sign(others) : null;
        }

        private boolean readItem() {
            int c = line.at(at);
            if (c == NONE) {
                return false;
            }
            if (c == '\\') {
                at += 2;
                return addEscaped(line.at(at - 1));
            }
            int end = line.at(at + 1) == '-' ? line.at(at + 2) : NONE;
            boolean isRange = end != NONE && end != ']' && end != '\\';
            if (!isRange) {
                at++;
                add(c);
                return true;
            }
            at += 3;
            for (int i = c; i <= end; i++) {
                add(i);
            }
            return c <= end;
        }

        private boolean addEscaped(int c) {
            switch (c) {
                case 'd':
                    below |= DIGITS;
                    return true;
                case 'w':
                    below |= DIGITS;
                    above |= WORD_LETTERS;
                    return true;
                case 's':
                    below |= BLANKS;
                    return true;
                case 'n':
                    add(NEW_LINE);
                    return true;
                default:
                    boolean isLetterOrDigit = c != '_' && contains(DIGITS, WORD_LETTERS, c);
                    if (c < 33 || c > 126 || isLetterOrDigit) {
                        return false;
                    }
                    add(c);
                    return true;
            }
        }

        private void add(int c) {
            if (c < WORD_BITS) {
                below |= 1L << c;
            } else {
                above |= 1L << (c - WORD_BITS);
            }
        }

        /** The other forms come in before the set is turned about: ^ means others than all of these. */
        private Node sign(boolean others) {
            if ((flags & ANY_CASE) != 0) {
                above |= (above & CAPITALS) << TO_SMALL | (above & SMALL_LETTERS) >>> TO_SMALL;
            }
            Node node = fresh(SIGN);
            if (node != null) {
                node.below = others ? ~below : below;
                node.above = others ? ~above : above;
                node.size = 1;
            }
            return node;
        }

        private Node readCount(Node atom) {
            int c = line.at(at);
            if (c != '*' && c != '+' && c != '?' && c != '{') {
                return atom;
            }
            at++;
            Node node = fresh(COUNT);
            if (node == null) {
                return null;
            }
            node.low = c == '+' ? 1 : 0;
            node.high = c == '?' ? 1 : ENDLESS;
            if (c == '{' && !readBounds(node)) {
                return null;
            }
            node.lazy = skip('?');
            node.append(atom);
            node.size = sizeOf(node, atom.size);
            return node;
        }

        private boolean readBounds(Node node) {
            node.low = readTimes();
            node.high = node.low;
            if (skip(',')) {
                node.high = line.at(at) == '}' ? ENDLESS : readTimes();
                if (node.high != ENDLESS && node.high < node.low) {
                    return false;
                }
            }
            return node.low <= MOST_TIMES && node.high <= MOST_TIMES && skip('}');
        }

        /** A digit; more than MOST_TIMES if there is none. */
        private int readTimes() {
            int c = line.at(at);
            at++;
            return c >= '0' && c <= '9' ? c - '0' : MOST_TIMES + 1;
        }

        private static int sizeOf(Node counted, int each) {
            int must = counted.low * each;
            if (counted.high == ENDLESS) {
                return must + each + 2;
            }
            return must + (counted.high - counted.low) * (each + 1);
        }
    }

    /** The steps that a pattern is made into. */
    private static final class Program {
        final int[] kind;
        /** Where a fork, a jump or a loop leads to; the slot of a catch; the kind of a check. */
        final int[] operand;
        /** How many stars are open at a step; at a loop, without its own. */
        final int[] stars;
        final long[] below;
        final long[] above;
        int used;
        int groups;

        Program() {
            kind = new int[STEP_ROOM];
            operand = new int[STEP_ROOM];
            stars = new int[STEP_ROOM];
            below = new long[STEP_ROOM];
            above = new long[STEP_ROOM];
        }

        void write(Node pattern, int newGroups) {
            used = 0;
            groups = newGroups;
            writeNode(pattern, 0, 0);
            put(DONE, 0, 0);
        }

        private void put(int newKind, int newOperand, int openStars) {
            if (used < STEP_ROOM) {
                kind[used] = newKind;
                operand[used] = newOperand;
                stars[used] = openStars;
                used++;
            }
        }

        private void writeNode(Node node, int openStars, int depth) {
            if (node == null || depth > TREE_DEPTH) {
                return;
            }
            switch (node.kind) {
                case SIGN:
                    writeTake(node, openStars);
                    break;
                case ASSERTION:
                    put(CHECK, node.number, openStars);
                    break;
                case PATTERN:
                    writeChains(node, openStars, depth + 1);
                    break;
                case GROUP:
                    put(CATCH, 2 * node.number, openStars);
                    writeNode(node.first, openStars, depth + 1);
                    put(CATCH, 2 * node.number + 1, openStars);
                    break;
                case COUNT:
                    writeCount(node, openStars, depth + 1);
                    break;
                default:
                    writeParts(node, openStars, depth + 1);
                    break;
            }
        }

        private void writeTake(Node node, int openStars) {
            if (used < STEP_ROOM) {
                below[used] = node.below;
                above[used] = node.above;
            }
            put(TAKE, 0, openStars);
        }

        private void writeParts(Node node, int openStars, int depth) {
            for (Node part = node.first; part != null; part = part.next) {
                writeNode(part, openStars, depth);
            }
        }

        private void writeChains(Node pattern, int openStars, int depth) {
            int end = used + pattern.size;
            for (Node chain = pattern.first; chain != null; chain = chain.next) {
                if (chain.next == null) {
                    writeNode(chain, openStars, depth);
                } else {
                    put(FORK, used + chain.size + 2, openStars);
                    writeNode(chain, openStars, depth);
                    put(JUMP, end, openStars);
                }
            }
        }

        private void writeCount(Node node, int openStars, int depth) {
            int fork = node.lazy ? FORK_LAZY : FORK;
            for (int i = 0; i < node.low; i++) {
                writeParts(node, openStars, depth);
            }
            if (node.high == ENDLESS) {
                int head = used;
                put(fork, head + sizeOfStar(node), openStars);
                writeParts(node, openStars + 1, depth);
                put(LOOP, head, openStars);
                return;
            }
            int end = used + node.size - node.low * sizeOfAtom(node);
            for (int i = node.low; i < node.high; i++) {
                put(fork, end, openStars);
                writeParts(node, openStars, depth);
            }
        }

        private static int sizeOfAtom(Node counted) {
            return counted.first == null ? 0 : counted.first.size;
        }

        private static int sizeOfStar(Node counted) {
            return sizeOfAtom(counted) + 2;
        }

        /** Whether a thread stays at the step until the next character. */
        boolean waitsAt(int step) {
            return kind[step] == TAKE || kind[step] == DONE;
        }

        boolean takes(int step, int c) {
            return kind[step] == TAKE && contains(below[step], above[step], c);
        }
    }

    /** The threads that wait at one place of the text, the preferred ones first. */
    private static final class Threads {
        final int[] steps;
        final int[] caught;
        /** A bit for each level at which a step was gone through at this place. */
        final int[] seen;
        int number;

        Threads() {
            steps = new int[STEP_ROOM];
            caught = new int[STEP_ROOM * SLOTS];
            seen = new int[STEP_ROOM];
        }

        void begin() {
            number = 0;
            Arrays.fill(seen, 0);
        }

        boolean isNew(int step, int level) {
            int bit = 1 << level;
            boolean isNew = (seen[step] & bit) == 0;
            seen[step] |= bit;
            return isNew;
        }

        void add(int step, int[] slots) {
            if (number < STEP_ROOM) {
                steps[number] = step;
                System.arraycopy(slots, 0, caught, number * SLOTS, SLOTS);
                number++;
            }
        }

        void copyCaught(int thread, int[] slots) {
            System.arraycopy(caught, thread * SLOTS, slots, 0, SLOTS);
        }
    }

    /**
     * Goes along the text with all threads at once. Of threads that are at the same step at the same
     * place the first one has all the ways that the others have, so the others are dropped. That a turn
     * of a star takes a character must be known for that too: the level of a thread is how many of the
     * open stars, from the outermost on, have taken one in their turn. (If an inner one has, so have all
     * that are round it.) While a thread waits its level is not needed: the next character raises it to
     * all the stars that are open.
     */
    private static final class Machine {
        final Program program;
        final Row body;
        final int[] slots;
        final int[] best;
        final int[] waiting;
        final int[] values;
        int waitingNumber;
        Threads now;
        Threads then;

        Machine(Program program, Row body) {
            this.program = program;
            this.body = body;
            slots = new int[SLOTS];
            best = new int[SLOTS];
            waiting = new int[WAITING_ROOM];
            values = new int[WAITING_ROOM];
            now = new Threads();
            then = new Threads();
        }

        int beginOf(int group) {
            return group >= 0 && group <= MOST_GROUPS ? best[2 * group] : NONE;
        }

        int endOf(int group) {
            return group >= 0 && group <= MOST_GROUPS ? best[2 * group + 1] : NONE;
        }

        /** From where the next one is searched behind what was found. */
        int goOn() {
            return endOf(0) > beginOf(0) ? endOf(0) : endOf(0) + 1;
        }

        /** With whole, only the ways from there to the end of the text count. */
        boolean search(int from, boolean whole) {
            boolean matched = false;
            now.begin();
            for (int place = from; place <= body.length; place++) {
                boolean mayBegin = whole ? place == from : !matched;
                if (mayBegin) {
                    beginThread(place);
                } else if (now.number == 0) {
                    break;
                }
                then.begin();
                matched |= stepAll(place, whole);
                Threads old = now;
                now = then;
                then = old;
            }
            return matched;
        }

        private void beginThread(int place) {
            Arrays.fill(slots, NONE);
            slots[0] = place;
            follow(now, place, 0, 0);
        }

        /** Whether a thread has come to its end; those behind it are not preferred and go no further. */
        private boolean stepAll(int place, boolean whole) {
            int c = body.at(place);
            for (int i = 0; i < now.number; i++) {
                int step = now.steps[i];
                if (program.takes(step, c)) {
                    now.copyCaught(i, slots);
                    follow(then, place + 1, step + 1, program.stars[step]);
                } else if (program.kind[step] == DONE && (!whole || c == NONE)) {
                    now.copyCaught(i, best);
                    best[1] = place;
                    return true;
                }
            }
            return false;
        }

        /** Leads a thread to all steps at which it waits for the character at the place. */
        private void follow(Threads threads, int place, int step, int level) {
            waitingNumber = 0;
            push(step, level);
            for (int turn = 0; turn < 2 * WAITING_ROOM && waitingNumber > 0; turn++) {
                waitingNumber--;
                int next = waiting[waitingNumber];
                int value = values[waitingNumber];
                if (next < 0) {
                    slots[-1 - next] = value;
                } else {
                    go(threads, place, next, value);
                }
            }
        }

        private void push(int step, int level) {
            if (waitingNumber < WAITING_ROOM) {
                waiting[waitingNumber] = step;
                values[waitingNumber] = level;
                waitingNumber++;
            }
        }

        private void go(Threads threads, int place, int step, int level) {
            if (step >= program.used || !threads.isNew(step, program.waitsAt(step) ? 0 : level)) {
                return;
            }
            int operand = program.operand[step];
            switch (program.kind[step]) {
                case CHECK:
                    if (holds(operand, place)) {
                        push(step + 1, level);
                    }
                    break;
                case CATCH:
                    catchPlace(operand, place);
                    push(step + 1, level);
                    break;
                case FORK:
                    push(operand, level);
                    push(step + 1, level);
                    break;
                case FORK_LAZY:
                    push(step + 1, level);
                    push(operand, level);
                    break;
                case JUMP:
                    push(operand, level);
                    break;
                case LOOP:
                    if (level > program.stars[step]) {
                        push(operand, program.stars[step]);
                    }
                    break;
                default:
                    threads.add(step, slots);
                    break;
            }
        }

        /** The less preferred ways that still wait below must find the slot as it was. */
        private void catchPlace(int slot, int place) {
            push(-1 - slot, slots[slot]);
            slots[slot] = place;
        }

        private boolean holds(int assertion, int place) {
            int before = body.at(place - 1);
            int behind = body.at(place);
            boolean atEdge = contains(DIGITS, WORD_LETTERS, before) != contains(DIGITS, WORD_LETTERS, behind);
            switch (assertion) {
                case TEXT_BEGIN:
                    return before == NONE;
                case TEXT_END:
                    return behind == NONE;
                case LINE_BEGIN:
                    return before == NONE || before == NEW_LINE;
                case LINE_END:
                    return behind == NONE || behind == NEW_LINE;
                case WORD_EDGE:
                    return atEdge;
                default:
                    return !atEdge;
            }
        }
    }
}
