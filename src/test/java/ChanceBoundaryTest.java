/** The boundary cases of part 3 of the document and of promises 13 to 21: how likely. */
public final class ChanceBoundaryTest {
    private static final Quote DOC = new Quote("ChanceBoundaryTest");
    private static final int BAD = EitherPocket.BAD, FULL = EitherPocket.FULL;
    /** What is neither 0 nor 1: no END, no side, no `what`. */
    private static final int[] WRONG = {-1, 2, 65536, Integer.MIN_VALUE, Integer.MAX_VALUE};
    /** The hand takes from the fuller box: all 20 are taken ahead of the first box found empty. */
    private static final String FULLER = "b10,10;h2,4;";

    public static void main(String[] args) {
        fromNowOn();
        atOnce();
        cut();
        cutFromTheDeepest();
        leftOf();
        left();
        mean();
        soonWithin();
        soon();
        times();
        likeliest();
        level();
        worth();
        beginNumbers();
        beginBest();
        over();
        DOC.end();
    }

    private static void fromNowOn() {
        DOC.says("From now on.");
        EitherPocket p = Check.laid("b3,2;h0,4;");
        DOC.due("times(0)", p.times(0), 400);
        p.reach(0);
        DOC.due("times(0), one taken", p.times(0), 300);
        p.buy(0);
        DOC.due("times(0), a box bought", p.times(0), 1100);
        p.hand(0, 0);
        DOC.due("times(0), the hand altered", p.times(0), 300);
        p.undo();
        p.undo();
        p.putOver(0, 1);
        DOC.due("times(0), one put over", p.times(0), 200);
        EitherPocket wonted = Check.laid("b5,2;h1,4;l0;");
        DOC.due("times(0), LEFT was last", wonted.times(0), 600);
        wonted.reach(1);
        DOC.due("times(0), RIGHT was last", wonted.times(0), 200);
    }

    private static void atOnce() {
        DOC.says("0 when a box is FOUND EMPTY, 1 when one is EMPTIED: its last MATCH is taken (at once, if one is empty now)");
        String[] texts = {"b0,5;", "b5,0;", "b0,10;", "b10,0;", "b0,0;", "b0,5;h0,0;", "b5,0;h0,4;", "b0,1;h0,0;"};
        int[] others = {5, 5, 10, 10, 0, 5, 5, 1};
        for (int i = 0; i < texts.length; i++) {
            EitherPocket p = Check.laid(texts[i]);
            DOC.due("times(1) of " + texts[i], p.times(1), 0);
            DOC.due("soon(1, 0) of " + texts[i], p.soon(1, 0), 10000);
            DOC.due("soon(1, 21) of " + texts[i], p.soon(1, 21), 10000);
            DOC.due("mean(1) of " + texts[i], p.mean(1), 100 * others[i]);
            DOC.due("likeliest(1) of " + texts[i], p.likeliest(1), others[i]);
            for (int k = 0; k <= 10; k++) {
                DOC.due("left(1, " + k + ") of " + texts[i], p.left(1, k), k == others[i] ? 10000 : 0);
            }
            DOC.due("soon(0, 0) of " + texts[i] + ", not found as yet", p.soon(0, 0), 0);
        }
        EitherPocket one = Check.laid("b1,5;h0,4;");
        DOC.due("times(1) of the last one", one.times(1), 100);
        DOC.due("times(0) behind the last one", one.times(0), 200);
        DOC.due("soon(1, 0) of the last one", one.soon(1, 0), 0);
        DOC.due("soon(1, 1) of the last one", one.soon(1, 1), 10000);
        DOC.due("soon(0, 1) of the last one", one.soon(0, 1), 0);
        DOC.due("left(1, 5)", one.left(1, 5), 10000);
        EitherPocket empty = Check.laid("b0,5;h0,0;");
        DOC.due("times(0), the empty one is never reached to", empty.times(0), 600);
        DOC.due("left(0, 0), the empty one is the other one", empty.left(0, 0), 10000);
    }

    private static void cut() {
        DOC.says("CHANCES are told in ten thousandths, cut (the exact one times 10000).");
        EitherPocket p = Check.laid("b0,9;h0,1;");
        DOC.due("left(0, 9), 1/4", p.left(0, 9), 2500);
        DOC.due("left(0, 8), 3/16", p.left(0, 8), 1875);
        DOC.due("left(0, 7), 9/64 is 1406.25", p.left(0, 7), 1406);
        DOC.due("left(0, 1), 3^8/4^9 is 250.28", p.left(0, 1), 250);
        DOC.due("left(0, 0), 3^9/4^9 is 750.85", p.left(0, 0), 750);
        DOC.due("soon(0, 3), 37/64 is 5781.25", p.soon(0, 3), 5781);
        DOC.due("soon(0, 4), 175/256 is 6835.94", p.soon(0, 4), 6835);
        DOC.due("which(), 1 less 3^10/4^10 is 9436.86", p.which(), 9436);
        DOC.due("level(9), 3^9/4^9 is 750.85", p.level(9), 750);
        EitherPocket rare = Check.laid("b10,10;h0,1;");
        DOC.due("soon(0, 11), 3^11/4^11 and 1/4^11 are 422.35", rare.soon(0, 11), 422);
        DOC.due("level(10), 1/4^10 is 0.0095", Check.laid("b10,0;h0,1;").level(10), 0);
    }

    /** All 20 taken by a STEADY hand: Banach's sum over the ways of 20 - k to the one, 10 of them to the other. */
    private static void cutFromTheDeepest() {
        DOC.says("(the exact one times 10000)");
        for (int x = 0; x <= 4; x++) {
            EitherPocket p = Check.laid("b10,10;h0," + x + ";");
            for (int k = 0; k <= 10; k++) {
                Fraction leftFirst = power(x, 11).times(power(4 - x, 10 - k));
                Fraction rightFirst = power(4 - x, 11).times(power(x, 10 - k));
                Fraction both = leftFirst.plus(rightFirst).times(Fraction.of(waysOfTen(20 - k), 1));
                DOC.due("left(0, " + k + ") by X " + x, p.left(0, k), both.cut(10000));
            }
        }
    }

    private static Fraction power(int quarters, int many) {
        Fraction product = Fraction.ONE;
        for (int i = 0; i < many; i++) {
            product = product.times(Fraction.of(quarters, 4));
        }
        return product;
    }

    private static long waysOfTen(int of) {
        long ways = 1;
        for (int i = 1; i <= 10; i++) {
            ways = ways * (of - 10 + i) / i;
        }
        return ways;
    }

    private static void leftOf() {
        DOC.says("LEFT of k (0 to 10) for an END: how likely there are k MATCHES in the other box then.");
        EitherPocket ten = Check.laid("b3,10;h0,4;");
        for (int k = 0; k <= 10; k++) {
            DOC.due("left(0, " + k + ")", ten.left(0, k), k == 10 ? 10000 : 0);
            DOC.due("left(1, " + k + ")", ten.left(1, k), k == 10 ? 10000 : 0);
        }
        EitherPocket none = Check.laid(FULLER);
        DOC.due("left(0, 0)", none.left(0, 0), 10000);
        DOC.due("left(1, 0), one is in the other as the first is emptied", none.left(1, 0), 0);
        DOC.due("left(1, 1)", none.left(1, 1), 10000);
    }

    private static void left() {
        DOC.says("int left(int end, int k): LEFT. BAD.");
        EitherPocket p = Check.laid("b2,1;");
        for (int k : new int[] {-1, 11, Integer.MIN_VALUE, Integer.MAX_VALUE}) {
            DOC.due("left(0, " + k + ")", p.left(0, k), BAD);
            DOC.due("left(1, " + k + ")", p.left(1, k), BAD);
        }
        for (int end : WRONG) {
            DOC.due("left(" + end + ", 0)", p.left(end, 0), BAD);
            DOC.due("left(" + end + ", 10)", p.left(end, 10), BAD);
        }
    }

    private static void mean() {
        DOC.says("MEAN for an END: how many, a hundred times the exact mean, cut.");
        DOC.due("mean(0) of 3/2, 2/4, 1/8 is 2.125", Check.laid("b0,3;").mean(0), 212);
        DOC.due("mean(0), none", Check.laid("b0,0;").mean(0), 0);
        DOC.due("mean(0), ten", Check.laid("b0,10;h0,4;").mean(0), 1000);
        DOC.due("mean(1), ten", Check.laid("b1,10;h0,4;").mean(1), 1000);
        DOC.due("mean(1), one is empty", Check.laid("b7,0;").mean(1), 700);
        DOC.due("mean(1), 1.625", Check.laid("b2,2;h0,1;").mean(1), 162);
        DOC.says("int mean(int end): MEAN. BAD.");
        for (int end : WRONG) {
            DOC.due("mean(" + end + ")", Check.laid("b2,1;").mean(end), BAD);
        }
    }

    private static void soonWithin() {
        DOC.says("SOON for an END and n (0 to 21): how likely it comes about within n REACHES");
        EitherPocket p = Check.laid(FULLER);
        DOC.due("soon(0, 0)", p.soon(0, 0), 0);
        DOC.due("soon(0, 20)", p.soon(0, 20), 0);
        DOC.due("soon(0, 21)", p.soon(0, 21), 10000);
        DOC.due("soon(1, 0)", p.soon(1, 0), 0);
        DOC.due("soon(1, 18)", p.soon(1, 18), 0);
        DOC.due("soon(1, 19)", p.soon(1, 19), 10000);
        DOC.due("soon(1, 21)", p.soon(1, 21), 10000);
        EitherPocket none = Check.laid("b0,0;");
        DOC.due("soon(0, 0) of none", none.soon(0, 0), 0);
        DOC.due("soon(0, 1) of none", none.soon(0, 1), 10000);
        EitherPocket half = Check.laid("b1,1;");
        DOC.due("soon(0, 1)", half.soon(0, 1), 0);
        DOC.due("soon(0, 2), the last of n too", half.soon(0, 2), 5000);
        DOC.due("soon(0, 3), those before too", half.soon(0, 3), 10000);
        for (int hand = 0; hand < 20; hand++) {
            String text = "h" + hand / 5 + "," + hand % 5 + ";";
            DOC.due("soon(0, 21) by " + text, Check.laid(text).soon(0, 21), 10000);
            DOC.due("soon(1, 19) by " + text, Check.laid(text).soon(1, 19), 10000);
            DOC.due("soon(0, 11) of 10 by " + text, Check.laid("b0,10;" + text).soon(0, 11), 10000);
        }
    }

    private static void soon() {
        DOC.says("int soon(int end, int n): SOON. BAD.");
        EitherPocket p = Check.laid("b2,1;");
        for (int n : new int[] {-1, 22, Integer.MIN_VALUE, Integer.MAX_VALUE}) {
            DOC.due("soon(0, " + n + ")", p.soon(0, n), BAD);
            DOC.due("soon(1, " + n + ")", p.soon(1, n), BAD);
        }
        for (int end : WRONG) {
            DOC.due("soon(" + end + ", 0)", p.soon(end, 0), BAD);
            DOC.due("soon(" + end + ", 21)", p.soon(end, 21), BAD);
        }
    }

    private static void times() {
        DOC.says("TIMES: the mean of REACHES till then (that one, too), a hundred times, cut.");
        DOC.due("times(0) of none", Check.laid("b0,0;").times(0), 100);
        DOC.due("times(0) of one", Check.laid("b1,0;h0,4;").times(0), 200);
        DOC.due("times(0) of all", Check.laid(FULLER).times(0), 2100);
        DOC.due("times(1) of all", Check.laid(FULLER).times(1), 1900);
        DOC.due("times(1) of one each", Check.laid("b1,1;").times(1), 100);
        DOC.due("times(0), 1.875", Check.laid("b0,3;").times(0), 187);
        DOC.says("int times(int end): TIMES. BAD.");
        for (int end : WRONG) {
            DOC.due("times(" + end + ")", Check.laid("b2,1;").times(end), BAD);
        }
    }

    private static void likeliest() {
        DOC.says("LIKELIEST for an END: how many are left likeliest, of several the fewest.");
        EitherPocket p = Check.laid("b1,1;");
        DOC.due("left(0, 0)", p.left(0, 0), 5000);
        DOC.due("left(0, 1)", p.left(0, 1), 5000);
        DOC.due("likeliest(0)", p.likeliest(0), 0);
        EitherPocket q = Check.laid("b2,1;");
        DOC.due("left(1, 1)", q.left(1, 1), 5000);
        DOC.due("left(1, 2)", q.left(1, 2), 5000);
        DOC.due("likeliest(1)", q.likeliest(1), 1);
        DOC.due("likeliest(0), ten", Check.laid("b0,10;h0,4;").likeliest(0), 10);
        DOC.due("likeliest(1), ten", Check.laid("b10,0;").likeliest(1), 10);
        DOC.due("likeliest(0), none", Check.laid("b0,0;").likeliest(0), 0);
        DOC.says("int likeliest(int end): LIKELIEST. BAD.");
        for (int end : WRONG) {
            DOC.due("likeliest(" + end + ")", q.likeliest(end), BAD);
        }
    }

    private static void level() {
        DOC.says("LEVEL behind n (0 to 20) REACHES: how likely as many are in both boxes then and none was FOUND EMPTY.");
        DOC.due("level(0), as many", Check.laid("b7,7;").level(0), 10000);
        DOC.due("level(0), not as many", Check.laid("b7,6;").level(0), 0);
        DOC.due("level(0), none", Check.laid("b0,0;").level(0), 10000);
        DOC.due("level(20)", Check.laid(FULLER).level(20), 10000);
        DOC.due("level(19)", Check.laid(FULLER).level(19), 0);
        EitherPocket none = Check.laid("b0,0;");
        for (int n = 1; n <= 20; n++) {
            DOC.due("level(" + n + "), as many but found empty", none.level(n), 0);
        }
        EitherPocket p = Check.laid("b1,1;");
        DOC.due("level(2), both are empty, none found so", p.level(2), 5000);
        DOC.due("level(3), found empty", p.level(3), 0);
        DOC.due("level(4), found empty", p.level(4), 0);
        // To the RIGHT first, found empty; then one would be in neither: not level all the same.
        DOC.due("level(2), found empty on the way", Check.laid("b1,0;").level(2), 0);
        DOC.due("level(1), one taken", Check.laid("b1,0;").level(1), 5000);
        DOC.due("level(4), 6 of 16, one more or one fewer is not as many", Check.laid("b4,4;").level(4), 3750);
        DOC.due("level(6), 20 of 64", Check.laid("b10,10;").level(6), 3125);
        DOC.says("int level(int n): LEVEL. BAD.");
        for (int n : new int[] {-1, 21, 22, Integer.MIN_VALUE, Integer.MAX_VALUE}) {
            DOC.due("level(" + n + ")", p.level(n), BAD);
        }
    }

    private static void worth() {
        DOC.says("WORTH of a side: were one MATCH more in that box now, the exact mean of REACHES till END 0 then less "
            + "that as it is, a hundred times, cut (toward 0), and 10000.");
        DOC.due("worth(0), 3.5 less 3.125", Check.laid("b2,1;").worth(0), 10037);
        DOC.due("worth(1), 4.125 less 3.125", Check.laid("b2,1;").worth(1), 10100);
        DOC.due("worth(0), nothing", Check.laid("b2,1;h0,0;").worth(0), 10000);
        DOC.due("worth(1), one reach", Check.laid("b2,1;h0,0;").worth(1), 10100);
        DOC.due("worth(0), none as it is", Check.laid("b0,0;h0,4;").worth(0), 10100);
        EitherPocket last = Check.laid("b1,1;h1,0;l0;");
        DOC.due("worth(0), the last one as now", last.worth(0), 10000);
        DOC.due("worth(1), the last one as now", last.worth(1), 10100);
        DOC.says("WORTH. BAD; FULL: there are 10.");
        DOC.due("worth(0) of 9", Check.laid("b9,10;h0,4;").worth(0), 10100);
        DOC.due("worth(1) of 9", Check.laid("b10,9;h0,0;").worth(1), 10100);
        EitherPocket full = Check.laid("b10,10;");
        DOC.due("worth(0) of 10", full.worth(0), FULL);
        DOC.due("worth(1) of 10", full.worth(1), FULL);
        DOC.due("worth(0) of 10, 3 in the other", Check.laid("b10,3;").worth(0), FULL);
        DOC.due("worth(1) of 10, 3 in the other", Check.laid("b3,10;").worth(1), FULL);
        for (int side : WRONG) {
            DOC.due("worth(" + side + ")", Check.laid("b2,1;").worth(side), BAD);
            DOC.due("worth(" + side + ") of 10", full.worth(side), BAD);
        }
    }

    private static void beginNumbers() {
        DOC.says("BEGIN with t (0 to 20) MATCHES and n (0 to 21) REACHES");
        EitherPocket p = Check.laid("b2,1;h2,4;");
        DOC.due("begin(0, 0, 0)", p.begin(0, 0, 0), 0);
        DOC.due("begin(0, 0, 1)", p.begin(0, 0, 1), 10000);
        DOC.due("begin(0, 1, 1)", p.begin(0, 1, 1), 0);
        DOC.due("begin(20, 20, 0)", p.begin(20, 20, 0), 10);
        DOC.due("begin(20, 20, 1)", p.begin(20, 20, 1), 10000);
        DOC.due("begin(20, 21, 0)", p.begin(20, 21, 0), 10);
        DOC.due("begin(20, 21, 1)", p.begin(20, 21, 1), 0);
        DOC.says("BEGIN: as many in the LEFT box (what = 0), how likely (1). BAD.");
        for (int wrong : new int[] {-1, 22, Integer.MIN_VALUE, Integer.MAX_VALUE}) {
            DOC.due("begin(" + wrong + ", 0, 0)", p.begin(wrong, 0, 0), BAD);
            DOC.due("begin(0, " + wrong + ", 0)", p.begin(0, wrong, 0), BAD);
        }
        DOC.due("begin(21, 21, 1)", p.begin(21, 21, 1), BAD);
        for (int what : WRONG) {
            DOC.due("begin(20, 21, " + what + ")", p.begin(20, 21, what), BAD);
        }
        DOC.due("box(0), nothing is parted", p.box(0), 2);
        DOC.due("box(1), nothing is parted", p.box(1), 1);
    }

    private static void beginBest() {
        DOC.says("of all ways to part them, 10 in a box at most");
        EitherPocket left = Check.laid("h0,4;");
        DOC.due("begin(15, 10, 0)", left.begin(15, 10, 0), 10);
        DOC.due("begin(15, 10, 1)", left.begin(15, 10, 1), 10000);
        DOC.due("begin(15, 11, 1)", left.begin(15, 11, 1), 0);
        DOC.due("begin(15, 11, 0), 10 in the right one", left.begin(15, 11, 0), 5);
        DOC.due("begin(10, 10, 0), all of them", left.begin(10, 10, 0), 10);
        DOC.due("begin(11, 0, 0), not 11 in the right one", left.begin(11, 0, 0), 1);
        DOC.due("begin(10, 0, 0), 10 in the right one", left.begin(10, 0, 0), 0);
        DOC.due("begin(15, 10, 0), from the right one", Check.laid("h0,0;").begin(15, 10, 0), 5);
        DOC.due("begin(15, 11, 1), from the right one", Check.laid("h0,0;").begin(15, 11, 1), 0);
        DOC.says("that by which it is least likely that any is FOUND EMPTY within n REACHES (exactly; the last one as now)");
        DOC.due("begin(3, 3, 0), RIGHT was last", Check.laid("h1,0;l1;").begin(3, 3, 0), 2);
        DOC.due("begin(3, 3, 0), LEFT was last", Check.laid("h1,0;l0;").begin(3, 3, 0), 1);
        // Both 8 and 9 (7 and 8) give 9999 cut; the second is likelier exactly.
        DOC.due("begin(18, 10, 0), 9 by less than a ten thousandth", Check.laid("h1,1;l0;").begin(18, 10, 0), 9);
        DOC.due("begin(15, 8, 0), 8 by less than a ten thousandth", Check.laid("h1,1;l1;").begin(15, 8, 0), 8);
        DOC.due("begin(15, 8, 1)", Check.laid("h1,1;l1;").begin(15, 8, 1), 9999);
        DOC.says("of several that with fewest in the LEFT box: as many; how likely it is not.");
        EitherPocket even = Check.laid("h0,2;");
        DOC.due("begin(3, 3, 0), 1 or 2", even.begin(3, 3, 0), 1);
        DOC.due("begin(3, 3, 1)", even.begin(3, 3, 1), 3750);
        DOC.due("begin(9, 0, 0), any", even.begin(9, 0, 0), 0);
        DOC.due("begin(2, 3, 0), found empty by any", even.begin(2, 3, 0), 0);
        DOC.due("begin(2, 3, 1), found empty by any", even.begin(2, 3, 1), 0);
    }

    private static void over() {
        DOC.says("PUT OVER: by putting how many over from LEFT (positive) or from RIGHT (negative) to the other one now "
            + "(10 in a box at most) the exact mean of REACHES till END 0 is greatest");
        overs("b10,0;h0,0;", 20, 1100);
        overs("b0,10;h0,4;", 0, 1100);
        overs("b10,7;h0,0;", 13, 1100);
        overs("b7,10;h0,4;", 7, 1100);
        overs("b10,10;h0,0;", 10, 1100);
        overs("b0,0;", 10, 100);
        overs("b1,0;h0,0;", 11, 200);
        overs("b5,3;h1,4;l1;", 15, 900);
        overs("b5,3;h1,4;l0;", 7, 900);
        // 1316 cut by both 1 and 2 to the LEFT (by 0 and 1): the second is more exactly.
        overs("b7,9;h1,3;l0;", 8, 1316);
        overs("b8,8;h1,3;l0;", 9, 1316);
        overs("b8,8;h1,3;l1;", 11, 1316);
        DOC.says("of several by the fewest, then from LEFT: that and 10; TIMES then.");
        overs("b3,0;h0,2;", 11, 312);
        overs("b0,3;h0,2;", 9, 312);
        overs("b7,3;h3,0;", 10, 1100);
        overs("b4,4;h1,4;", 10, 500);
        DOC.says("PUT OVER: that and 10 (what = 0), TIMES (1). BAD.");
        EitherPocket p = Check.laid("b3,0;h0,2;");
        for (int what : WRONG) {
            DOC.due("over(" + what + ")", p.over(what), BAD);
        }
        p.over(0);
        DOC.due("box(0), nothing is put over", p.box(0), 3);
        DOC.due("count(6), nothing is put over", p.count(6), 0);
    }

    private static void overs(String text, int many, int times) {
        EitherPocket p = Check.laid(text);
        DOC.due("over(0) of " + text, p.over(0), many);
        DOC.due("over(1) of " + text, p.over(1), times);
    }
}
