import java.util.HashMap;
import java.util.Map;

/** The document's chances told backward, from each state to its end, for one hand. */
final class Oracle {
    private final int kind;
    private final int x;
    private final Map<String, Fraction> known = new HashMap<>();

    Oracle(int kind, int x) {
        this.kind = kind;
        this.x = x;
    }

    int quarters(int l, int r, int last) {
        int more = kind == 1 ? (last == 0 ? 1 : last == 1 ? -1 : 0) : Integer.compare(l, r);
        if (kind == 0) {
            return x;
        }
        if (kind == 3) {
            more = -more;
        }
        return more == 0 ? 2 : more > 0 ? x : 4 - x;
    }

    private Fraction mixed(int l, int r, int last, Fraction ifLeft, Fraction ifRight) {
        int q = quarters(l, r, last);
        return Fraction.of(q, 4).times(ifLeft).plus(Fraction.of(4 - q, 4).times(ifRight));
    }

    private static boolean over(int end, int l, int r) {
        return end == 1 && (l == 0 || r == 0);
    }

    /** How likely there are k in the other box at the end. */
    Fraction left(int end, int k, int l, int r, int last) {
        if (over(end, l, r)) {
            return l + r == k ? Fraction.ONE : Fraction.ZERO;
        }
        String key = "L" + end + " " + k + " " + l + " " + r + " " + last;
        Fraction f = known.get(key);
        if (f == null) {
            Fraction a = l == 0 ? (r == k ? Fraction.ONE : Fraction.ZERO) : left(end, k, l - 1, r, 0);
            Fraction b = r == 0 ? (l == k ? Fraction.ONE : Fraction.ZERO) : left(end, k, l, r - 1, 1);
            f = mixed(l, r, last, a, b);
            known.put(key, f);
        }
        return f;
    }

    Fraction mean(int end, int l, int r, int last) {
        Fraction sum = Fraction.ZERO;
        for (int k = 1; k <= 10; k++) {
            sum = sum.plus(Fraction.of(k, 1).times(left(end, k, l, r, last)));
        }
        return sum;
    }

    /** How likely the end comes within n. */
    Fraction soon(int end, int n, int l, int r, int last) {
        if (over(end, l, r)) {
            return Fraction.ONE;
        }
        if (n == 0) {
            return Fraction.ZERO;
        }
        String key = "S" + end + " " + n + " " + l + " " + r + " " + last;
        Fraction f = known.get(key);
        if (f == null) {
            Fraction a = l == 0 ? Fraction.ONE : soon(end, n - 1, l - 1, r, 0);
            Fraction b = r == 0 ? Fraction.ONE : soon(end, n - 1, l, r - 1, 1);
            f = mixed(l, r, last, a, b);
            known.put(key, f);
        }
        return f;
    }

    Fraction times(int end, int l, int r, int last) {
        if (over(end, l, r)) {
            return Fraction.ZERO;
        }
        String key = "T" + end + " " + l + " " + r + " " + last;
        Fraction f = known.get(key);
        if (f == null) {
            Fraction a = l == 0 ? Fraction.ZERO : times(end, l - 1, r, 0);
            Fraction b = r == 0 ? Fraction.ZERO : times(end, l, r - 1, 1);
            f = Fraction.ONE.plus(mixed(l, r, last, a, b));
            known.put(key, f);
        }
        return f;
    }

    Fraction which(int l, int r, int last) {
        String key = "W" + l + " " + r + " " + last;
        Fraction f = known.get(key);
        if (f == null) {
            Fraction a = l == 0 ? Fraction.ONE : which(l - 1, r, 0);
            Fraction b = r == 0 ? Fraction.ZERO : which(l, r - 1, 1);
            f = mixed(l, r, last, a, b);
            known.put(key, f);
        }
        return f;
    }

    Fraction level(int n, int l, int r, int last) {
        if (n == 0) {
            return l == r ? Fraction.ONE : Fraction.ZERO;
        }
        String key = "V" + n + " " + l + " " + r + " " + last;
        Fraction f = known.get(key);
        if (f == null) {
            Fraction a = l == 0 ? Fraction.ZERO : level(n - 1, l - 1, r, 0);
            Fraction b = r == 0 ? Fraction.ZERO : level(n - 1, l, r - 1, 1);
            f = mixed(l, r, last, a, b);
            known.put(key, f);
        }
        return f;
    }

    /** How likely all is seen: seen[i] is the state behind (i + 1) evenings of n. */
    Fraction seen(int[][] seen, int n, int done, int l, int r, int last) {
        if (done > 0 && done % n == 0) {
            int[] s = seen.length >= done / n ? seen[done / n - 1] : null;
            if (s != null && (s[0] != l || s[1] != r)) {
                return Fraction.ZERO;
            }
        }
        if (done == n * seen.length) {
            return Fraction.ONE;
        }
        int q = quarters(l, r, last);
        Fraction sum = Fraction.ZERO;
        if (l > 0 && q > 0) {
            sum = sum.plus(Fraction.of(q, 4).times(seen(seen, n, done + 1, l - 1, r, 0)));
        }
        if (r > 0 && q < 4) {
            sum = sum.plus(Fraction.of(4 - q, 4).times(seen(seen, n, done + 1, l, r - 1, 1)));
        }
        return sum;
    }
}
