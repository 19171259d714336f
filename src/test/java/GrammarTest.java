import java.util.Random;
import java.util.regex.Matcher;
import java.util.regex.Pattern;

/** Promise 4 for lines made by chance: whether they are PATTERNs is found out a second way, sign by sign. */
final class GrammarTest {
    private static final Checks checks = new Checks("GrammarTest");
    private static final int LINES = Integer.getInteger("lines", 200_000);

    private static final String ESCAPED_SIGN = "[!-/:-@\\[-`{-~]";
    private static final String ITEM = "(?:\\\\(?:[dwsn]|" + ESCAPED_SIGN + ")|[^\\]\\\\]-[^\\]\\\\]|[^\\]\\\\])";
    private static final Pattern OPEN = Pattern.compile("\\((\\?:)?");
    private static final Pattern ASSERTION = Pattern.compile("\\^|\\$|\\\\[bB]");
    private static final Pattern ATOM = Pattern.compile(
            "\\[\\^?+" + ITEM + "++\\]|\\\\(?:[dwsDWSn]|" + ESCAPED_SIGN + ")|[^|()\\[*+?{^$\\\\]");
    private static final Pattern COUNT = Pattern.compile("(?:[*+?]|\\{[0-5]\\}|\\{[0-5],\\}|\\{([0-5]),([0-5])\\})\\??");

    private static final String[] PARTS = {
        "a", "b", "(", "(", "(?:", ")", ")", "|", "*", "+", "?", "{", "}", "{2}", "{1,}", "{1,2}", "{2,1}", "{6}", "1",
        ",", "[", "]", "[a-", "^", "-", "$", ".", "\\", "\\b", "\\d", "\\D", "\\n", "\\q", "[b", "-a]", "c]", "\n", ":"
    };

    private int at;
    private int open;
    private int groups;
    private final String line;

    private GrammarTest(String line) {
        this.line = line;
    }

    public static void main(String[] args) {
        Random random = new Random(7);
        int patterns = 0;
        for (int i = 0; i < LINES; i++) {
            String line = madeLine(random);
            boolean due = new GrammarTest(line).isPattern();
            patterns += due ? 1 : 0;
            checks.equal("\"" + line + "\" is a PATTERN", due, isTaken(line));
        }
        checks.equal("there were patterns and others", true, patterns > LINES / 20 && patterns < LINES / 2);
        checks.end();
    }

    private static String madeLine(Random random) {
        StringBuilder line = new StringBuilder();
        int parts = 1 + random.nextInt(8);
        for (int i = 0; i < parts; i++) {
            line.append(PARTS[random.nextInt(PARTS.length)]);
        }
        return line.toString();
    }

    private static boolean isTaken(String line) {
        PatternMachine x = new PatternMachine();
        Checks.type(x, line);
        try {
            x.compile(0);
            return x.look(1) == 0;
        } catch (IllegalArgumentException e) {
            return x.look(1) != line.length();
        } catch (UnsupportedOperationException e) {
            return x.look(1) == line.length();
        }
    }

    private boolean isPattern() {
        while (at < line.length()) {
            if (!oneMore()) {
                return false;
            }
        }
        return open == 0;
    }

    private boolean oneMore() {
        Matcher next = OPEN.matcher(line).region(at, line.length());
        if (next.lookingAt()) {
            at = next.end();
            open++;
            groups += next.group(1) == null ? 1 : 0;
            return open <= 8 && groups <= 4;
        }
        if (line.charAt(at) == '|') {
            at++;
            return true;
        }
        if (skip(ASSERTION)) {
            return true;
        }
        if (line.charAt(at) == ')') {
            at++;
            open--;
            return open >= 0 && countIsRight();
        }
        int begin = at;
        return skip(ATOM) && rangesAreRight(line.substring(begin, at)) && countIsRight();
    }

    private boolean skip(Pattern what) {
        Matcher next = what.matcher(line).region(at, line.length());
        boolean there = next.lookingAt();
        at = there ? next.end() : at;
        return there;
    }

    private boolean countIsRight() {
        Matcher next = COUNT.matcher(line).region(at, line.length());
        if (next.lookingAt()) {
            at = next.end();
            return next.group(1) == null || next.group(1).compareTo(next.group(2)) <= 0;
        }
        return true;
    }

    private static boolean rangesAreRight(String atom) {
        if (!atom.startsWith("[")) {
            return true;
        }
        Matcher items = Pattern.compile(ITEM).matcher(atom.substring(atom.startsWith("[^") ? 2 : 1, atom.length() - 1));
        while (items.find()) {
            String item = items.group();
            if (item.length() == 3 && item.charAt(0) > item.charAt(2)) {
                return false;
            }
        }
        return true;
    }
}
