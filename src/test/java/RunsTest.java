import java.util.List;
import java.util.NoSuchElementException;
import java.util.Random;

/** All promises in runs of calls made by chance: a plain model of the object says what each call must answer. */
final class RunsTest {
    private static final Checks checks = new Checks("RunsTest");
    private static final int RUNS = Integer.getInteger("runs", 20_000);
    private static final int FIRST = Integer.getInteger("first", 0);
    // An object is promised to answer 512 calls; the last ones are kept for a look at all of it.
    private static final int MOST_CALLS = 330;

    private static final String[] NO_PATTERNS = {
        "(", ")", "a**", "[", "[b-a]", "a{6}", "\\", "(?a)", "(a)(b)(c)(d)(e)", "a|*", "^*", "(?:(?:a{5}){5}){5}{5}"
    };
    private static final String[] TEMPLATES = {"", "-", "<$0>", "$1", "$$", "$4$3", "$", "a$", "$5", "$x", "$1$2", "$0$0$0"};

    interface Answer {
        Object get();
    }

    private static int thrown;
    private final Random random;
    private final PatternMachine x = new PatternMachine();
    private final StringBuilder story = new StringBuilder();
    private int calls;

    private String line = "";
    private String text = "";
    private Ways.Pattern pattern;
    private int flags;
    private int groups;
    private int[] found;

    private RunsTest(int seed) {
        random = new Random(seed);
    }

    public static void main(String[] args) {
        theLastPromisedCallIsAnswered();
        int left = 0;
        for (int seed = FIRST; seed < FIRST + RUNS; seed++) {
            RunsTest run = new RunsTest(seed);
            try {
                run.go();
            } catch (Ways.TooLong e) {
                left++;
            }
        }
        checks.equal("most runs came to their end", true, left < RUNS / 10);
        checks.equal("many calls were refused", true, thrown > 2 * RUNS);
        checks.end();
    }

    private static void theLastPromisedCallIsAnswered() {
        checks.about("An object is used for at most 512 calls after it has been made");
        PatternMachine x = new PatternMachine();
        Checks.addText(x, "ba");
        Checks.compile(x, "(a)", 0);
        int made = 7;
        while (made < 511) {
            checks.equal("find", true, x.find(made % 2));
            made++;
        }
        checks.equal("the 512th call", 2, x.group(1, true));
        checks.about("all promises, in runs made by chance");
    }

    private void go() {
        while (calls < MOST_CALLS) {
            step();
            lookAtAll();
        }
        equal("text", text, Checks.text(x));
        equal("line", line, Checks.lineOf(x));
    }

    private void step() {
        switch (random.nextInt(16)) {
            case 0:
            case 1:
                typeSome(1 + random.nextInt(6), "aabbcA1 \n.$-");
                break;
            case 2:
                typeSome(random.nextInt(30), "aab\t\u007f");
                break;
            case 3:
                tell("wipe");
                x.wipe();
                line = "";
                break;
            case 4:
            case 5:
                compileMade();
                break;
            case 6:
                compileRefused();
                break;
            case 7:
            case 8:
                addText();
                break;
            case 9:
                replaceBy(random.nextInt(3) == 0 ? null : TEMPLATES[random.nextInt(TEMPLATES.length)]);
                break;
            case 10:
                countAll();
                break;
            case 11:
                piece(random.nextInt(6) - 1, random.nextInt(5) - 2);
                break;
            case 12:
                matchesAll();
                break;
            default:
                findFrom(random.nextInt(text.length() + 3) - 1);
                break;
        }
    }

    private void tell(String call) {
        calls++;
        story.append(' ').append(call);
    }

    private void check(String call, Object due, Answer answer) {
        tell(call);
        Object got;
        try {
            got = answer.get();
        } catch (RuntimeException e) {
            got = e.getClass();
            thrown++;
        }
        equal(call, due, got);
    }

    private void equal(String what, Object due, Object got) {
        checks.equal(due.equals(got) ? what : what + " at the end of" + story, due, got);
    }

    private void lookAtAll() {
        calls += 4;
        equal("groups", groups, x.look(0));
        equal("line", line.length(), x.look(1));
        equal("text", text.length(), x.look(2));
        equal("found", found == null ? 0 : 1, x.look(3));
        int k = random.nextInt(7) - 1;
        boolean end = random.nextBoolean();
        Object due = found == null ? IllegalStateException.class
                : k < 0 || k > groups ? IndexOutOfBoundsException.class : (Object) found[2 * k + (end ? 1 : 0)];
        check("group(" + k + "," + end + ")", due, () -> x.group(k, end));
        int place = random.nextInt(83) - 1;
        boolean isThere = place >= 0 && place < text.length();
        check("character(" + place + ")", isThere ? (int) text.charAt(place) : -1, () -> x.character(place));
    }

    private void typeAll(String signs) {
        for (char c : signs.toCharArray()) {
            boolean fits = line.length() < 40 && Checks.ALL.indexOf(c) >= 0;
            check("type(" + c + ")", fits, () -> x.type(c));
            line += fits ? String.valueOf(c) : "";
        }
    }

    private void typeSome(int number, String signs) {
        for (int i = 0; i < number; i++) {
            typeAll(String.valueOf(signs.charAt(random.nextInt(signs.length()))));
        }
    }

    private void onlyType(String signs) {
        tell("wipe");
        x.wipe();
        line = "";
        typeAll(signs);
    }

    private void compileMade() {
        Ways.Maker maker = new Ways.Maker(random.nextInt());
        Ways.Pattern made = maker.pattern(random.nextInt(4));
        if (made.written().length() > 40) {
            return;
        }
        int newFlags = random.nextInt(32) - 16;
        onlyType(made.written());
        if (made.size() > 120) {
            check("compile", UnsupportedOperationException.class, () -> x.compile(newFlags));
            return;
        }
        check("compile(" + newFlags + ")", (int) made.size(), () -> x.compile(newFlags));
        pattern = made;
        flags = newFlags & 7;
        groups = maker.groups;
        line = "";
        found = null;
    }

    private void compileRefused() {
        if (random.nextInt(4) == 0) {
            onlyType("(?:(?:a{5}){5}){5}");
            check("compile", UnsupportedOperationException.class, () -> x.compile(0));
        } else {
            onlyType(NO_PATTERNS[random.nextInt(NO_PATTERNS.length)]);
            check("compile", IllegalArgumentException.class, () -> x.compile(0));
        }
    }

    private void addText() {
        if (text.length() > 12 && random.nextInt(8) != 0) {
            tell("clear");
            x.clear();
            text = "";
        } else {
            String all = text + line;
            text = all.substring(0, Math.min(80, all.length()));
            line = "";
            check("text", text.length(), () -> x.text());
        }
        found = null;
    }

    private void findFrom(int from) {
        if (pattern == null) {
            check("find(" + from + ")", IllegalStateException.class, () -> x.find(from));
        } else if (from < 0 || from > text.length()) {
            check("find(" + from + ")", IndexOutOfBoundsException.class, () -> x.find(from));
        } else {
            found = new Ways(text, flags).find(pattern, from);
            check("find(" + from + ")", found != null, () -> x.find(from));
        }
    }

    private void matchesAll() {
        if (pattern == null) {
            check("matches", IllegalStateException.class, () -> x.matches());
        } else {
            found = new Ways(text, flags).first(pattern, 0, true);
            check("matches", found != null, () -> x.matches());
        }
    }

    private List<int[]> places() {
        return new Ways(text, flags).places(pattern);
    }

    private void countAll() {
        if (pattern == null) {
            check("count", IllegalStateException.class, () -> x.count());
            return;
        }
        check("count", places().size(), () -> x.count());
        found = null;
    }

    private void replaceBy(String template) {
        if (template != null) {
            onlyType(template);
        }
        if (pattern == null) {
            check("replace", IllegalStateException.class, () -> x.replace());
            return;
        }
        if (line.replaceAll("\\$[$0-" + groups + "]", "").contains("$")) {
            check("replace", IllegalArgumentException.class, () -> x.replace());
            return;
        }
        List<int[]> places = places();
        StringBuilder all = new StringBuilder();
        int copied = 0;
        for (int[] place : places) {
            all.append(text, copied, place[0]).append(filled(place));
            copied = place[1];
        }
        all.append(text.substring(copied));
        check("replace", places.size(), () -> x.replace());
        text = all.substring(0, Math.min(80, all.length()));
        line = "";
        found = null;
    }

    private String filled(int[] place) {
        StringBuilder filled = new StringBuilder();
        for (int i = 0; i < line.length(); i++) {
            if (line.charAt(i) != '$') {
                filled.append(line.charAt(i));
                continue;
            }
            i++;
            int k = line.charAt(i) - '0';
            if (line.charAt(i) == '$') {
                filled.append('$');
            } else if (place[2 * k] != -1) {
                filled.append(text, place[2 * k], place[2 * k + 1]);
            }
        }
        return filled.toString();
    }

    private void piece(int n, int k) {
        if (pattern == null) {
            check("piece(" + n + "," + k + ")", IllegalStateException.class, () -> x.piece(n, k));
            return;
        }
        check("piece(" + n + "," + k + ")", pieceDue(places(), n, k), () -> x.piece(n, k));
        found = null;
    }

    private Object pieceDue(List<int[]> places, int n, int k) {
        if (n < 0 || n > places.size()) {
            return NoSuchElementException.class;
        }
        int begin = n == 0 ? 0 : places.get(n - 1)[1];
        int end = n == places.size() ? text.length() : places.get(n)[0];
        if (k < -1 || k >= end - begin) {
            return IndexOutOfBoundsException.class;
        }
        return k == -1 ? end - begin : (int) text.charAt(begin + k);
    }
}
