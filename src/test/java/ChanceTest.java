import java.util.Random;

/** Every state by every hand against the oracle, and what was seen by chance walks. */
public final class ChanceTest {
    private static final Check CHECK = new Check("ChanceTest");
    private static final Oracle[] HANDS = new Oracle[20];

    public static void main(String[] args) {
        for (int i = 0; i < 20; i++) {
            HANDS[i] = new Oracle(i / 5, i % 5);
        }
        for (int i = 0; i < 20; i++) {
            for (int state = 0; state < 363; state++) {
                ofState(i, state / 33, state / 3 % 11, state % 3);
            }
        }
        begins();
        seenByChance();
        CHECK.end();
    }

    private static String textOf(int hand, int l, int r, int last) {
        return "b" + l + "," + r + ";h" + hand / 5 + "," + hand % 5 + ";" + (last < 2 ? "l" + last + ";" : "");
    }

    private static void ofState(int hand, int l, int r, int last) {
        String text = textOf(hand, l, r, last) + "e" + (1 + (l + 3 * r) % 9) + ";";
        EitherPocket p = Check.laid(text);
        Oracle o = HANDS[hand];
        for (int end = 0; end < 2; end++) {
            ends(text, p, o, end, l, r, last);
        }
        for (int n = 0; n <= 20; n++) {
            CHECK.due(text + " level(" + n + ")", p.level(n), o.level(n, l, r, last).cut(10000));
        }
        CHECK.due(text + " quarters(0)", p.quarters(0), o.quarters(l, r, last));
        CHECK.due(text + " which()", p.which(), o.which(l, r, last).cut(10000));
        worths(text, p, o, l, r, last);
        overs(text, p, o, l, r, last);
        evenings(text, p, o, l, r, last);
        for (int other = 0; other < 20; other += 3) {
            int sign = o.times(0, l, r, last).compareTo(HANDS[other].times(0, l, r, last));
            CHECK.due(text + " better than " + other, p.better(hand / 5, hand % 5, other / 5, other % 5),
                sign == 0 ? 0 : sign > 0 ? 1 : 2);
        }
        coats(text, p, o, new int[] {l, r, last}, 7 * hand + 131 * l + 11 * r + 2999 * last);
    }

    private static void ends(String text, EitherPocket p, Oracle o, int end, int l, int r, int last) {
        int best = 0;
        for (int k = 0; k <= 10; k++) {
            Fraction f = o.left(end, k, l, r, last);
            CHECK.due(text + " left(" + end + ", " + k + ")", p.left(end, k), f.cut(10000));
            if (f.compareTo(o.left(end, best, l, r, last)) > 0) {
                best = k;
            }
        }
        CHECK.due(text + " likeliest(" + end + ")", p.likeliest(end), best);
        CHECK.due(text + " mean(" + end + ")", p.mean(end), o.mean(end, l, r, last).cut(100));
        CHECK.due(text + " times(" + end + ")", p.times(end), o.times(end, l, r, last).cut(100));
        for (int n = 0; n <= 21; n++) {
            CHECK.due(text + " soon(" + end + ", " + n + ")", p.soon(end, n), o.soon(end, n, l, r, last).cut(10000));
        }
    }

    private static void worths(String text, EitherPocket p, Oracle o, int l, int r, int last) {
        Fraction now = o.times(0, l, r, last);
        int ofLeft = l == 10 ? -3 : o.times(0, l + 1, r, last).minus(now).cut(100) + 10000;
        int ofRight = r == 10 ? -3 : o.times(0, l, r + 1, last).minus(now).cut(100) + 10000;
        CHECK.due(text + " worth(0)", p.worth(0), ofLeft);
        CHECK.due(text + " worth(1)", p.worth(1), ofRight);
    }

    private static void overs(String text, EitherPocket p, Oracle o, int l, int r, int last) {
        Integer best = null;
        Fraction most = null;
        for (int k = -10; k <= 10; k++) {
            if (l - k < 0 || l - k > 10 || r + k < 0 || r + k > 10) {
                continue;
            }
            Fraction f = o.times(0, l - k, r + k, last);
            int sign = most == null ? 1 : f.compareTo(most);
            if (sign > 0 || sign == 0 && (Math.abs(k) < Math.abs(best) || k == -best)) {
                best = k;
                most = f;
            }
        }
        CHECK.due(text + " over(0)", p.over(0), best + 10);
        CHECK.due(text + " over(1)", p.over(1), most.cut(100));
    }

    private static void evenings(String text, EitherPocket p, Oracle o, int l, int r, int last) {
        for (int y : new int[] {1, 4, 500, 2499, 2500, 4999, 5000, 7499, 7500, 9374, 9375, 9999}) {
            int want = 0;
            for (int m = 1; m <= 7; m++) {
                Fraction none = Fraction.ONE.minus(o.soon(0, m * p.count(3), l, r, last));
                if (none.compareTo(Fraction.of(y, 10000)) > 0) {
                    want = m;
                }
            }
            CHECK.due(text + " evenings(" + y + ")", p.evenings(y), want);
        }
    }

    private static void coats(String text, EitherPocket p, Oracle o, int[] state, int seed) {
        int z = seed % 10000;
        int n = 1 + seed % 60;
        int[] box = {state[0], state[1]};
        int last = state[2];
        int bought = 0;
        for (int i = 0; i < n; i++) {
            java.math.BigInteger x = java.math.BigInteger.valueOf(7919L * z + 6151L * i + 1);
            int draw = x.multiply(x).mod(java.math.BigInteger.valueOf(65521)).intValue() / 8;
            int side = draw % 4 < o.quarters(box[0], box[1], last) ? 0 : 1;
            last = side;
            box[side]--;
            if (box[side] < 0) {
                box[side] = 10;
                bought++;
            }
        }
        CHECK.due(text + " coat(" + z + ", " + n + ", 0)", p.coat(z, n, 0), bought);
        CHECK.due(text + " coat(" + z + ", " + n + ", 1)", p.coat(z, n, 1), box[0] + box[1]);
    }

    private static void begins() {
        for (int hand = 0; hand < 20; hand++) {
            for (int last = 0; last < 3; last++) {
                for (int t = 0; t <= 20; t++) {
                    EitherPocket p = Check.laid(textOf(hand, (t * 7 + last) % 11, (hand + t) % 11, last));
                    for (int n = 0; n <= 21; n++) {
                        oneBegin(p, hand, last, t, n);
                    }
                }
            }
        }
    }

    private static void oneBegin(EitherPocket p, int hand, int last, int t, int n) {
        int best = -1;
        Fraction least = null;
        for (int l = Math.min(10, t); l >= 0 && t - l <= 10; l--) {
            Fraction f = HANDS[hand].soon(0, n, l, t - l, last);
            if (least == null || f.compareTo(least) <= 0) {
                best = l;
                least = f;
            }
        }
        String call = "hand " + hand + " last " + last + " begin(" + t + ", " + n + ", ";
        CHECK.due(call + "0)", p.begin(t, n, 0), best);
        CHECK.due(call + "1)", p.begin(t, n, 1), Fraction.ONE.minus(least).cut(10000));
    }

    private static void seenByChance() {
        Random random = new Random(20261118);
        for (int run = 0; run < 3000; run++) {
            int[] s = {random.nextInt(11), random.nextInt(11), random.nextInt(3)};
            int n = 1 + random.nextInt(random.nextBoolean() ? 3 : 9);
            int[][] seen = chanceWalk(random, s[0], s[1], n);
            String text = textOf(random.nextInt(20), s[0], s[1], s[2]) + "e" + n + ";";
            EitherPocket p = Check.laid(text);
            for (int[] one : seen) {
                p.seen(one[0], one[1]);
                text += " " + one[0] + "," + one[1];
            }
            int bits = 0;
            for (int kind = 0; kind < 4; kind++) {
                int best = -4;
                Fraction most = Fraction.ZERO;
                for (int x = 4; x >= 0; x--) {
                    Fraction f = HANDS[kind * 5 + x].seen(seen, n, 0, s[0], s[1], s[2]);
                    if (f.compareTo(Fraction.ZERO) > 0 && f.compareTo(most) >= 0) {
                        best = x;
                        most = f;
                    }
                }
                bits += best < 0 ? 0 : 1 << kind;
                CHECK.due(text + " asLikely(" + kind + ", 0)", p.asLikely(kind, 0), best);
                CHECK.due(text + " asLikely(" + kind + ", 1)", p.asLikely(kind, 1), best < 0 ? -4 : most.cut(10000));
            }
            CHECK.due(text + " fits()", p.fits(), bits);
        }
    }

    /** Mostly possible, now and then one seen that is not. */
    private static int[][] chanceWalk(Random random, int l, int r, int n) {
        int[] box = {l, r};
        int[][] seen = new int[random.nextInt(7)][];
        for (int i = 0; i < seen.length; i++) {
            for (int k = 0; k < n; k++) {
                int side = random.nextInt(2);
                box[side] = Math.max(0, box[side] - 1);
            }
            seen[i] = new int[] {box[0], box[1]};
            if (random.nextInt(15) == 0) {
                seen[i][random.nextInt(2)] = random.nextInt(11);
            }
        }
        return seen;
    }
}
