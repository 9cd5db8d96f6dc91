import java.util.ArrayList;
import java.util.List;
import java.util.regex.Matcher;
import java.util.regex.Pattern;

/** The whole document in its plainest form, by lists, a pattern and the oracle's fractions; it uses nothing of the class. */
final class Model {
    static final int BAD = -1, NO = -2, FULL = -3, NONE = -4;
    private static final Pattern ITEM = Pattern.compile(
        "b(0?\\d|10),(0?\\d|10);|h0?([0-3]),0?([0-4]);|l0?([01]);|e0?([1-9]);");
    private static final Oracle[] HANDS = new Oracle[20];

    /** left, right, last, kind, x */
    int[] now = {6, 4, 2, 2, 3};
    int evening = 2;
    String text = "";
    final List<int[]> acts = new ArrayList<>();
    final List<int[]> kept = new ArrayList<>();
    final List<int[]> seen = new ArrayList<>();

    private static Oracle oracle(int kind, int x) {
        int i = 5 * kind + x;
        if (HANDS[i] == null) {
            HANDS[i] = new Oracle(kind, x);
        }
        return HANDS[i];
    }

    private Oracle oracle() {
        return oracle(now[3], now[4]);
    }

    private static boolean in(int value, int least, int most) {
        return least <= value && value <= most;
    }

    private int[] act() {
        acts.add(now);
        if (acts.size() > 8) {
            acts.remove(0);
        }
        now = now.clone();
        return now;
    }

    int write(int letter) {
        if (!in(letter, 32, 126)) {
            return BAD;
        }
        if (text.length() == 200) {
            return FULL;
        }
        text += (char) letter;
        return text.length();
    }

    int wipe() {
        int was = text.length();
        text = "";
        return was;
    }

    int fault() {
        Matcher m = ITEM.matcher(text);
        int at = 0;
        while (at < text.length()) {
            if (!m.region(at, text.length()).lookingAt()) {
                return at;
            }
            at = m.end();
        }
        return NONE;
    }

    int lay() {
        if (fault() != NONE) {
            return NO;
        }
        now = new int[] {10, 10, 2, 0, 2};
        evening = 3;
        int[] places = {0, 1, 3, 4, 2};
        for (Matcher m = ITEM.matcher(text); m.find();) {
            for (int group = 1; group <= 5; group++) {
                if (m.group(group) != null) {
                    now[places[group - 1]] = Integer.parseInt(m.group(group));
                }
            }
            evening = m.group(6) == null ? evening : Integer.parseInt(m.group(6));
        }
        seen.clear();
        acts.clear();
        kept.clear();
        return now[0] + now[1];
    }

    int box(int side) {
        return in(side, 0, 1) ? now[side] : BAD;
    }

    int quarters(int side) {
        if (!in(side, 0, 1)) {
            return BAD;
        }
        int q = oracle().quarters(now[0], now[1], now[2]);
        return side == 0 ? q : 4 - q;
    }

    int reach(int side) {
        if (!in(side, 0, 1)) {
            return BAD;
        }
        act()[2] = side;
        return now[side] == 0 ? -5 : --now[side];
    }

    int putOver(int side, int k) {
        if (!in(side, 0, 1) || !in(k, 1, 10)) {
            return BAD;
        }
        if (now[side] < k) {
            return NO;
        }
        if (now[1 - side] + k > 10) {
            return FULL;
        }
        act()[side] -= k;
        now[1 - side] += k;
        return now[side];
    }

    int buy(int side) {
        if (!in(side, 0, 1)) {
            return BAD;
        }
        int were = now[side];
        act()[side] = 10;
        return were;
    }

    int hand(int kind, int x) {
        if (!in(kind, 0, 3) || !in(x, 0, 4)) {
            return BAD;
        }
        int was = 10 * now[3] + now[4];
        act()[3] = kind;
        now[4] = x;
        return was;
    }

    int undo() {
        if (acts.isEmpty()) {
            return NO;
        }
        now = acts.remove(acts.size() - 1);
        return acts.size();
    }

    int left(int end, int k) {
        boolean told = in(end, 0, 1) && in(k, 0, 10);
        return told ? oracle().left(end, k, now[0], now[1], now[2]).cut(10000) : BAD;
    }

    int mean(int end) {
        return in(end, 0, 1) ? oracle().mean(end, now[0], now[1], now[2]).cut(100) : BAD;
    }

    int soon(int end, int n) {
        boolean told = in(end, 0, 1) && in(n, 0, 21);
        return told ? oracle().soon(end, n, now[0], now[1], now[2]).cut(10000) : BAD;
    }

    int times(int end) {
        return in(end, 0, 1) ? oracle().times(end, now[0], now[1], now[2]).cut(100) : BAD;
    }

    int likeliest(int end) {
        if (!in(end, 0, 1)) {
            return BAD;
        }
        int best = 10;
        for (int k = 9; k >= 0; k--) {
            Fraction f = oracle().left(end, k, now[0], now[1], now[2]);
            best = f.compareTo(oracle().left(end, best, now[0], now[1], now[2])) >= 0 ? k : best;
        }
        return best;
    }

    int level(int n) {
        return in(n, 0, 20) ? oracle().level(n, now[0], now[1], now[2]).cut(10000) : BAD;
    }

    int worth(int side) {
        if (!in(side, 0, 1)) {
            return BAD;
        }
        if (now[side] == 10) {
            return FULL;
        }
        Fraction more = oracle().times(0, now[0] + 1 - side, now[1] + side, now[2]);
        return more.minus(oracle().times(0, now[0], now[1], now[2])).cut(100) + 10000;
    }

    int begin(int t, int n, int what) {
        if (!in(t, 0, 20) || !in(n, 0, 21) || !in(what, 0, 1)) {
            return BAD;
        }
        int best = -1;
        Fraction least = null;
        for (int l = 10; l >= 0; l--) {
            if (in(t - l, 0, 10)) {
                Fraction f = oracle().soon(0, n, l, t - l, now[2]);
                if (least == null || f.compareTo(least) <= 0) {
                    best = l;
                    least = f;
                }
            }
        }
        return what == 0 ? best : Fraction.ONE.minus(least).cut(10000);
    }

    int over(int what) {
        if (!in(what, 0, 1)) {
            return BAD;
        }
        int best = 0;
        Fraction most = null;
        // The later one of as many wins: from the most put over down to none, RIGHT ahead of LEFT.
        for (int step = 20; step >= 0; step--) {
            int k = step % 2 == 0 ? -step / 2 : (step + 1) / 2;
            if (in(now[0] - k, 0, 10) && in(now[1] + k, 0, 10)) {
                Fraction f = oracle().times(0, now[0] - k, now[1] + k, now[2]);
                if (most == null || f.compareTo(most) >= 0) {
                    best = k;
                    most = f;
                }
            }
        }
        return what == 0 ? best + 10 : most.cut(100);
    }

    int seen(int l, int r) {
        if (!in(l, 0, 10) || !in(r, 0, 10)) {
            return BAD;
        }
        if (seen.size() == 6) {
            return FULL;
        }
        seen.add(new int[] {l, r});
        return seen.size();
    }

    int forget() {
        int were = seen.size();
        seen.clear();
        return were;
    }

    private Fraction likely(int kind, int x) {
        return oracle(kind, x).seen(seen.toArray(new int[0][]), evening, 0, now[0], now[1], now[2]);
    }

    int fits() {
        int bits = 0;
        for (int kind = 0; kind <= 3; kind++) {
            bits |= asLikely(kind, 0) == NONE ? 0 : 1 << kind;
        }
        return bits;
    }

    int asLikely(int kind, int what) {
        if (!in(kind, 0, 3) || !in(what, 0, 1)) {
            return BAD;
        }
        int best = 4;
        Fraction most = likely(kind, 4);
        for (int x = 3; x >= 0; x--) {
            Fraction f = likely(kind, x);
            if (f.compareTo(most) >= 0) {
                best = x;
                most = f;
            }
        }
        if (most.compareTo(Fraction.ZERO) == 0) {
            return NONE;
        }
        return what == 0 ? best : most.cut(10000);
    }

    int evenings(int y) {
        if (!in(y, 1, 9999)) {
            return BAD;
        }
        int many = 7;
        while (many > 0 && !surely(many, y)) {
            many--;
        }
        return many;
    }

    private boolean surely(int many, int y) {
        Fraction empty = oracle().soon(0, many * evening, now[0], now[1], now[2]);
        return Fraction.ONE.minus(empty).compareTo(Fraction.of(y, 10000)) > 0;
    }

    int which() {
        return oracle().which(now[0], now[1], now[2]).cut(10000);
    }

    int better(int kind, int x, int other, int y) {
        if (!in(kind, 0, 3) || !in(x, 0, 4) || !in(other, 0, 3) || !in(y, 0, 4)) {
            return BAD;
        }
        Fraction one = oracle(kind, x).times(0, now[0], now[1], now[2]);
        int sign = one.compareTo(oracle(other, y).times(0, now[0], now[1], now[2]));
        return sign == 0 ? 0 : sign > 0 ? 1 : 2;
    }

    int coat(int z, int n, int what) {
        if (!in(z, 0, 9999) || !in(n, 1, 60) || !in(what, 0, 1)) {
            return BAD;
        }
        int[] box = {now[0], now[1]};
        int last = now[2];
        int bought = 0;
        for (int i = 0; i < n; i++) {
            long x = (7919L * z + 6151L * i + 1) % 65521;
            long draw = x * x % 65521 / 8;
            last = draw % 4 < oracle().quarters(box[0], box[1], last) ? 0 : 1;
            bought += box[last] == 0 ? 1 : 0;
            box[last] = box[last] == 0 ? 10 : box[last] - 1;
        }
        return what == 0 ? bought : box[0] + box[1];
    }

    int keep() {
        if (kept.size() == 2) {
            return FULL;
        }
        kept.add(now.clone());
        return kept.size();
    }

    int back() {
        if (kept.isEmpty()) {
            return NO;
        }
        now = kept.remove(kept.size() - 1);
        acts.clear();
        return kept.size();
    }

    int count(int what) {
        int[] counts = {now[0] + now[1], now[3], now[4], evening, now[2], seen.size(), acts.size(), kept.size(),
            text.length()};
        return in(what, 0, 8) ? counts[what] : BAD;
    }
}
