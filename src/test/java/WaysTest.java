import java.util.List;

/** Promises 4 and 7 to 12 for many patterns and texts made by chance, against the ways tried one by one. */
final class WaysTest {
    private static final Checks checks = new Checks("WaysTest");
    private static final int PATTERNS = Integer.getInteger("patterns", 30_000);
    private static final int FIRST = Integer.getInteger("first", 0);
    private static int left;

    public static void main(String[] args) {
        int tried = 0;
        for (int seed = FIRST; seed < FIRST + PATTERNS; seed++) {
            Ways.Maker maker = new Ways.Maker(seed);
            Ways.Pattern pattern = maker.pattern(1 + seed % 5);
            if (pattern.written().length() <= 40) {
                tried++;
                tryPattern(pattern, maker);
            }
        }
        checks.equal("most patterns were tried", true, tried > PATTERNS / 3 && left < tried / 10);
        checks.end();
    }

    private static void tryPattern(Ways.Pattern pattern, Ways.Maker maker) {
        int flags = maker.flags();
        if (pattern.size() > 120) {
            checks.tooLarge(pattern.written());
            return;
        }
        for (int i = 0; i < 4; i++) {
            PatternMachine x = new PatternMachine();
            Checks.type(x, pattern.written());
            checks.equal("SIZE of " + pattern.written(), (int) pattern.size(), x.compile(flags));
            checks.equal("groups of " + pattern.written(), maker.groups, x.look(0));
            Ways ways = new Ways(maker.text(i == 3 ? 20 : 6), flags);
            Checks.addText(x, ways.text);
            try {
                tryText(x, pattern, ways);
            } catch (Ways.TooLong e) {
                left++;
            }
        }
    }

    private static void tryText(PatternMachine x, Ways.Pattern pattern, Ways ways) {
        String what = pattern.written() + " with " + ways.flags + " in \"" + ways.text + "\"";
        for (int from = 0; from <= ways.text.length(); from++) {
            int[] due = ways.find(pattern, from);
            checks.equal("find from " + from + " of " + what, due != null, x.find(from));
            checks.equal("find from " + from + " of " + what, shown(due, x.look(0)), Checks.caught(x));
        }
        int[] due = ways.first(pattern, 0, true);
        checks.equal("matches of " + what, due != null, x.matches());
        checks.equal("matches of " + what, shown(due, x.look(0)), Checks.caught(x));
        tryPlaces(x, ways.places(pattern), ways.text, what);
    }

    private static void tryPlaces(PatternMachine x, List<int[]> places, String text, String what) {
        checks.equal("count of " + what, places.size(), x.count());
        StringBuilder replaced = new StringBuilder();
        int copied = 0;
        for (int n = 0; n < places.size(); n++) {
            int[] place = places.get(n);
            String piece = text.substring(copied, place[0]);
            checks.equal("piece " + n + " of " + what, piece, Checks.piece(x, n));
            replaced.append(piece).append('<').append(text, place[0], place[1]).append('>');
            if (x.look(0) > 0) {
                replaced.append(place[2] == -1 ? "" : text.substring(place[2], place[3]));
            }
            copied = place[1];
        }
        checks.equal("last piece of " + what, text.substring(copied), Checks.piece(x, places.size()));
        replaced.append(text.substring(copied));
        int count = Checks.replace(x, x.look(0) > 0 ? "<$0>$1" : "<$0>");
        checks.equal("places replaced of " + what, places.size(), count);
        String due = replaced.substring(0, Math.min(80, replaced.length()));
        checks.equal("replaced of " + what, due, Checks.text(x));
    }

    private static String shown(int[] slots, int groups) {
        if (slots == null) {
            return "none";
        }
        StringBuilder all = new StringBuilder();
        for (int k = 0; k <= groups; k++) {
            all.append(k == 0 ? "" : " ");
            all.append(slots[2 * k] == -1 ? "-" : slots[2 * k] + "-" + slots[2 * k + 1]);
        }
        return all.toString();
    }
}
