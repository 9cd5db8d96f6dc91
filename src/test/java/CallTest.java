import java.util.ArrayList;
import java.util.List;
import java.util.Random;
import java.util.regex.Matcher;
import java.util.regex.Pattern;

/** Chance runs of calls, wrong numbers among them, against a plain model of the state. */
public final class CallTest {
    private static final Check CHECK = new Check("CallTest");
    private static final int BAD = -1, NO = -2, FULL = -3, NONE = -4;
    private static final Pattern ITEM = Pattern.compile(
        "b(0?\\d|10),(0?\\d|10);|h0?([0-3]),0?([0-4]);|l0?([01]);|e0?([1-9]);");
    private static final String LETTERS = "bhle0123456789,;;,10";

    private final Random random;
    private final EitherPocket pocket = new EitherPocket();
    /** left, right, last, kind, x */
    private int[] now = {6, 4, 2, 2, 3};
    private int evening = 2;
    private String text = "";
    private final List<int[]> acts = new ArrayList<>();
    private final List<int[]> kept = new ArrayList<>();
    private final List<int[]> seen = new ArrayList<>();

    private CallTest(long seed) {
        random = new Random(seed);
    }

    public static void main(String[] args) {
        for (int run = 0; run < 1500; run++) {
            CallTest test = new CallTest(run);
            for (int i = 0; i < 25; i++) {
                test.oneCall();
                test.compareState(run + "/" + i);
            }
        }
        texts();
        strangeNumbers();
        CHECK.end();
    }

    private void oneCall() {
        int side = random.nextInt(12) == 0 ? random.nextInt(7) - 3 : random.nextInt(2);
        switch (random.nextInt(11)) {
            case 0: case 1: case 2: reach(side); break;
            case 3: putOver(side, random.nextInt(8) == 0 ? random.nextInt(16) - 2 : 1 + random.nextInt(5)); break;
            case 4: buy(side); break;
            case 5: hand(random.nextInt(6) - 1, random.nextInt(7) - 1); break;
            case 6: CHECK.due("undo()", pocket.undo(), undo()); break;
            case 7: CHECK.due("keep()", pocket.keep(), keep()); break;
            case 8: CHECK.due("back()", pocket.back(), back()); break;
            case 9: see(random.nextInt(13) - 1, random.nextInt(13) - 1); break;
            default: texting(); break;
        }
    }

    private void act(int[] next) {
        acts.add(now);
        if (acts.size() > 8) {
            acts.remove(0);
        }
        now = next;
    }

    private void reach(int side) {
        int want = BAD;
        if (side == 0 || side == 1) {
            int[] next = now.clone();
            next[2] = side;
            want = next[side] == 0 ? -5 : --next[side];
            act(next);
        }
        CHECK.due("reach(" + side + ")", pocket.reach(side), want);
    }

    private void putOver(int side, int k) {
        int want;
        if (side < 0 || side > 1 || k < 1 || k > 10) {
            want = BAD;
        } else if (now[side] < k) {
            want = NO;
        } else if (now[1 - side] + k > 10) {
            want = FULL;
        } else {
            int[] next = now.clone();
            next[side] -= k;
            next[1 - side] += k;
            want = next[side];
            act(next);
        }
        CHECK.due("putOver(" + side + ", " + k + ")", pocket.putOver(side, k), want);
    }

    private void buy(int side) {
        int want = BAD;
        if (side == 0 || side == 1) {
            want = now[side];
            int[] next = now.clone();
            next[side] = 10;
            act(next);
        }
        CHECK.due("buy(" + side + ")", pocket.buy(side), want);
    }

    private void hand(int kind, int x) {
        int want = BAD;
        if (kind >= 0 && kind < 4 && x >= 0 && x < 5) {
            want = 10 * now[3] + now[4];
            int[] next = now.clone();
            next[3] = kind;
            next[4] = x;
            act(next);
        }
        CHECK.due("hand(" + kind + ", " + x + ")", pocket.hand(kind, x), want);
    }

    private int undo() {
        if (acts.isEmpty()) {
            return NO;
        }
        now = acts.remove(acts.size() - 1);
        return acts.size();
    }

    private int keep() {
        if (kept.size() == 2) {
            return FULL;
        }
        kept.add(now);
        return kept.size();
    }

    private int back() {
        if (kept.isEmpty()) {
            return NO;
        }
        now = kept.remove(kept.size() - 1);
        acts.clear();
        return kept.size();
    }

    private void see(int l, int r) {
        int want;
        if (l < 0 || l > 10 || r < 0 || r > 10) {
            want = BAD;
        } else if (seen.size() == 6) {
            want = FULL;
        } else {
            seen.add(new int[] {l, r});
            want = seen.size();
        }
        CHECK.due("seen(" + l + ", " + r + ")", pocket.seen(l, r), want);
    }

    private void texting() {
        switch (random.nextInt(8)) {
            case 0:
                CHECK.due("wipe()", pocket.wipe(), text.length());
                text = "";
                break;
            case 1:
                CHECK.due("forget()", pocket.forget(), seen.size());
                seen.clear();
                break;
            case 2:
                CHECK.due("lay() of " + text, pocket.lay(), lay());
                break;
            default:
                String more = chanceItem(random);
                Check.type(pocket, more);
                text += more;
                break;
        }
    }

    private int lay() {
        if (faultOf(text) != NONE) {
            return NO;
        }
        now = new int[] {10, 10, 2, 0, 2};
        evening = 3;
        Matcher m = ITEM.matcher(text);
        while (m.find()) {
            take(m, 1, 0);
            take(m, 2, 1);
            take(m, 3, 3);
            take(m, 4, 4);
            take(m, 5, 2);
            evening = m.group(6) == null ? evening : Integer.parseInt(m.group(6));
        }
        acts.clear();
        kept.clear();
        seen.clear();
        return now[0] + now[1];
    }

    private void take(Matcher m, int group, int into) {
        if (m.group(group) != null) {
            now[into] = Integer.parseInt(m.group(group));
        }
    }

    private void compareState(String when) {
        int[] want = {now[0] + now[1], now[3], now[4], evening, now[2], seen.size(), acts.size(), kept.size(),
            text.length()};
        for (int what = 0; what < want.length; what++) {
            CHECK.due(when + " count(" + what + ")", pocket.count(what), want[what]);
        }
        CHECK.due(when + " box(0)", pocket.box(0), now[0]);
        CHECK.due(when + " box(1)", pocket.box(1), now[1]);
        int quarters = new Oracle(now[3], now[4]).quarters(now[0], now[1], now[2]);
        CHECK.due(when + " quarters(0)", pocket.quarters(0), quarters);
        CHECK.due(when + " quarters(1)", pocket.quarters(1), 4 - quarters);
    }

    private static int faultOf(String text) {
        Matcher m = ITEM.matcher(text);
        int at = 0;
        while (at < text.length()) {
            m.region(at, text.length());
            if (!m.lookingAt()) {
                return at;
            }
            at = m.end();
        }
        return NONE;
    }

    private static String chanceItem(Random random) {
        switch (random.nextInt(9)) {
            case 0: case 1: return "b" + random.nextInt(12) + "," + random.nextInt(12) + ";";
            case 2: case 3: return "h" + random.nextInt(4) + "," + random.nextInt(5) + ";";
            case 4: return "l" + random.nextInt(2) + ";";
            case 5: case 6: return "e" + random.nextInt(10) + ";";
            case 7: return "h0" + random.nextInt(5) + ",0" + random.nextInt(6) + ";";
            default: return random.nextInt(3) > 0 ? "" : "" + LETTERS.charAt(random.nextInt(LETTERS.length()));
        }
    }

    private static void texts() {
        Random random = new Random(7);
        for (int run = 0; run < 60000; run++) {
            StringBuilder letters = new StringBuilder();
            int items = random.nextInt(5);
            for (int i = 0; i < items; i++) {
                letters.append(chanceItem(random));
            }
            if (letters.length() > 0 && random.nextInt(3) == 0) {
                letters.setCharAt(random.nextInt(letters.length()), LETTERS.charAt(random.nextInt(LETTERS.length())));
            }
            EitherPocket p = new EitherPocket();
            Check.type(p, letters.toString());
            CHECK.due("fault() of " + letters, p.fault(), faultOf(letters.toString()));
        }
    }

    /** No number may make a call throw or change a thing where it answers BAD. */
    private static void strangeNumbers() {
        int[] strange = {Integer.MIN_VALUE, -65536, -2, -1, 11, 23, 10000, 65536, 1 << 30, Integer.MAX_VALUE};
        EitherPocket p = new EitherPocket();
        for (int a : strange) {
            int[] got = {p.box(a), p.quarters(a), p.reach(a), p.putOver(a, 1), p.putOver(0, a), p.buy(a),
                p.hand(a, 0), p.hand(0, a), p.left(a, 0), p.left(0, a), p.mean(a), p.times(a), p.likeliest(a),
                p.worth(a), p.begin(0, 0, a), p.over(a), p.seen(a, 0), p.seen(0, a), p.asLikely(a, 0),
                p.asLikely(0, a), p.better(a, 0, 0, 0), p.better(0, a, 0, 0), p.better(0, 0, a, 0),
                p.better(0, 0, 0, a), p.coat(0, 1, a), p.count(a), p.soon(a, 0)};
            for (int i = 0; i < got.length; i++) {
                CHECK.due("strange " + a + " call " + i, got[i], BAD);
            }
            if (a < 0 || a >= 10000) {
                CHECK.due("soon(0, " + a + ")", p.soon(0, a), BAD);
                CHECK.due("level(" + a + ")", p.level(a), BAD);
                CHECK.due("write(" + a + ")", p.write(a), BAD);
                CHECK.due("begin(" + a + ", 0, 0)", p.begin(a, 0, 0), BAD);
                CHECK.due("begin(0, " + a + ", 0)", p.begin(0, a, 0), BAD);
                CHECK.due("evenings(" + a + ")", p.evenings(a), BAD);
                CHECK.due("coat(" + a + ", 1, 0)", p.coat(a, 1, 0), BAD);
                CHECK.due("coat(0, " + a + ", 0)", p.coat(0, a, 0), BAD);
            }
        }
        CHECK.due("count(0)", p.count(0), 10);
        CHECK.due("count(6)", p.count(6), 0);
    }
}
