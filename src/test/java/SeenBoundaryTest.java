/** The boundary cases of part 4 of the document and of promises 22 to 29: what was seen. */
public final class SeenBoundaryTest {
    private static final Quote DOC = new Quote("SeenBoundaryTest");
    private static final int BAD = EitherPocket.BAD, FULL = EitherPocket.FULL, NONE = EitherPocket.NONE;
    private static final int[] WRONG = {-1, 2, 65536, Integer.MIN_VALUE, Integer.MAX_VALUE};

    public static void main(String[] args) {
        seenAtMost();
        forget();
        eachOfAnEvening();
        fits();
        likeliestQuarters();
        asLikely();
        evenings();
        which();
        better();
        coatNumbers();
        coatBought();
        coatDraws();
        DOC.end();
    }

    /** The text laid, then boxes seen: l, r, l, r and so on. */
    private static EitherPocket seen(String text, int... boxes) {
        EitherPocket p = Check.laid(text);
        for (int i = 0; i + 1 < boxes.length; i += 2) {
            p.seen(boxes[i], boxes[i + 1]);
        }
        return p;
    }

    private static void seenAtMost() {
        DOC.says("SEEN (6 at most)");
        EitherPocket p = new EitherPocket();
        for (int i = 1; i <= 6; i++) {
            DOC.due("seen(0, 10), the " + i + ".", p.seen(0, 10), i);
        }
        DOC.due("the seventh", p.seen(0, 10), FULL);
        DOC.due("count(5)", p.count(5), 6);
        DOC.says("SEEN: how many. BAD; FULL.");
        EitherPocket q = new EitherPocket();
        for (int wrong : new int[] {-1, 11, Integer.MIN_VALUE, Integer.MAX_VALUE}) {
            DOC.due("seen(" + wrong + ", 0)", q.seen(wrong, 0), BAD);
            DOC.due("seen(0, " + wrong + ")", q.seen(0, wrong), BAD);
            DOC.due("the seventh, seen(" + wrong + ", 0)", p.seen(wrong, 0), BAD);
            DOC.due("the seventh, seen(0, " + wrong + ")", p.seen(0, wrong), BAD);
        }
        DOC.due("count(5)", q.count(5), 0);
        DOC.due("seen(0, 0)", q.seen(0, 0), 1);
        DOC.due("seen(10, 10)", q.seen(10, 10), 2);
    }

    private static void forget() {
        DOC.says("Nothing is SEEN: how many were.");
        EitherPocket p = new EitherPocket();
        DOC.due("forget() of none", p.forget(), 0);
        for (int i = 0; i < 6; i++) {
            p.seen(10, 10);
        }
        DOC.due("fits()", p.fits(), 0);
        DOC.due("forget() of six", p.forget(), 6);
        DOC.due("forget() again", p.forget(), 0);
        DOC.due("fits(), nothing seen", p.fits(), 15);
        DOC.due("seen(4, 4), the first again", p.seen(4, 4), 1);
        DOC.due("fits(), the first again", p.fits(), 15);
    }

    private static void eachOfAnEvening() {
        DOC.says("each one told is of one EVENING more, from now on, each of N REACHES, "
            + "none of them FOUND EMPTY (else it is not possible)");
        DOC.due("fits(), one of N 1", seen("b3,3;e1;", 2, 3).fits(), 15);
        DOC.due("fits(), none was taken", seen("b3,3;e1;", 3, 3).fits(), 0);
        DOC.due("fits(), two were taken", seen("b3,3;e1;", 1, 3).fits(), 0);
        DOC.due("fits(), one more is there", seen("b3,3;e1;", 4, 1).fits(), 0);
        DOC.due("fits(), N 9", seen("b10,10;e9;", 1, 10).fits(), 15);
        DOC.due("fits(), N 9 twice", seen("b10,10;e9;", 1, 10, 1, 1).fits(), 15);
        DOC.due("fits(), N 9 thrice", seen("b10,10;e9;", 1, 10, 1, 1, 0, 0).fits(), 0);
        DOC.due("fits(), the last match", seen("b1,1;e2;", 0, 0).fits(), 15);
        DOC.due("fits(), found empty behind the last match", seen("b1,1;e3;", 0, 0).fits(), 0);
        DOC.due("fits(), found empty with one in the other", seen("b1,0;e1;", 1, 0).fits(), 0);
        DOC.due("fits(), found empty on the second evening", seen("b1,1;e2;", 0, 0, 0, 0).fits(), 0);
        DOC.due("fits(), six evenings", seen("b3,3;e1;", 2, 3, 2, 2, 1, 2, 1, 1, 0, 1, 0, 0).fits(), 15);
        DOC.due("fits(), the sixth is not so", seen("b3,3;e1;", 2, 3, 2, 2, 1, 2, 1, 1, 0, 1, 1, 0).fits(), 0);
        EitherPocket p = seen("b5,5;e2;", 4, 4);
        DOC.due("fits(), from now on", p.fits(), 15);
        p.reach(0);
        DOC.due("fits(), one taken since", p.fits(), 0);
        p.undo();
        DOC.due("fits(), undone", p.fits(), 15);
    }

    private static void fits() {
        DOC.says("FITS: KINDS (bits) by which with any X of 0 to 4 all that is SEEN is possible, "
            + "from the MATCHES and the last one as now.");
        DOC.due("fits(), nothing seen", Check.laid("b0,0;").fits(), 15);
        DOC.due("fits(), possible by X 4 too", seen("b3,3;h0,4;e3;", 0, 3).fits(), 15);
        DOC.due("fits(), by other X than that of the hand", seen("b3,3;h0,4;e3;", 3, 0).fits(), 15);
        DOC.due("fits(), possible by none", seen("b3,3;h0,4;e3;", 3, 3).fits(), 0);
        EitherPocket p = seen("b3,3;h0,4;e3;", 3, 0);
        p.fits();
        DOC.due("count(1), the hand stays", p.count(1), 0);
        DOC.due("count(2), the hand stays", p.count(2), 4);
    }

    private static void likely(String text, int kind, int x, int chance, int... boxes) {
        EitherPocket p = seen(text, boxes);
        DOC.due("asLikely(" + kind + ", 0) of " + text, p.asLikely(kind, 0), x);
        DOC.due("asLikely(" + kind + ", 1) of " + text, p.asLikely(kind, 1), chance);
    }

    private static void likeliestQuarters() {
        DOC.says("AS LIKELY for a KIND: the X by which all of it together is likeliest, of several the least; "
            + "how likely (ten thousandths, cut); none (possible by no X).");
        for (int kind = 0; kind <= 3; kind++) {
            likely("b5,5;h3,3;e1;", kind, 0, 10000);
            likely("b5,5;h3,3;e1;", kind, NONE, NONE, 5, 5);
        }
        likely("b5,5;e1;", 0, 4, 10000, 4, 5);
        likely("b5,5;e1;", 0, 0, 10000, 5, 4);
        // As many in both: half by any X.
        likely("b5,5;e1;", 2, 0, 5000, 4, 5);
        likely("b5,5;e1;", 3, 0, 5000, 4, 5);
        // From none the first time: half by any X.
        likely("b5,5;e1;", 1, 0, 5000, 4, 5);
        likely("b5,5;e1;l0;", 1, 4, 10000, 4, 5);
        likely("b5,5;e1;l1;", 1, 0, 10000, 4, 5);
        likely("b6,5;e1;", 2, 4, 10000, 5, 5);
        likely("b6,5;e1;", 3, 0, 10000, 5, 5);
        // All of it together, not each one: once to the LEFT, once to the RIGHT.
        likely("b5,5;e1;", 0, 2, 2500, 4, 5, 4, 4);
        // Three to the LEFT, one to the RIGHT: 27 of 256 is 1054.69.
        likely("b5,5;e1;", 0, 3, 1054, 4, 5, 3, 5, 2, 5, 2, 4);
        // Half to the 18th is not a ten thousandth, and yet possible.
        likely("b10,10;e3;", 0, 2, 0, 7, 10, 4, 10, 1, 10, 1, 7, 1, 4, 1, 1);
    }

    private static void asLikely() {
        DOC.says("AS LIKELY: X (what = 0), how likely (1). NONE; BAD.");
        EitherPocket may = seen("b5,5;e1;", 4, 5);
        EitherPocket not = seen("b5,5;e1;", 5, 5);
        for (int kind : new int[] {-1, 4, 5, Integer.MIN_VALUE, Integer.MAX_VALUE}) {
            for (int what = 0; what <= 1; what++) {
                DOC.due("asLikely(" + kind + ", " + what + ")", may.asLikely(kind, what), BAD);
                DOC.due("asLikely(" + kind + ", " + what + "), not possible", not.asLikely(kind, what), BAD);
            }
        }
        for (int what : WRONG) {
            for (int kind = 0; kind <= 3; kind++) {
                DOC.due("asLikely(" + kind + ", " + what + ")", may.asLikely(kind, what), BAD);
                DOC.due("asLikely(" + kind + ", " + what + "), not possible", not.asLikely(kind, what), BAD);
            }
        }
        DOC.due("asLikely(0, 0), not possible", not.asLikely(0, 0), NONE);
        DOC.due("asLikely(3, 1), not possible", not.asLikely(3, 1), NONE);
    }

    private static void evenings() {
        DOC.says("EVENINGS for y (1 to 9999): for how many EVENINGS on end (0 to 7) "
            + "it is likelier than y ten thousandths (exactly) that none is FOUND EMPTY.");
        EitherPocket half = Check.laid("b1,1;e2;");
        DOC.due("evenings(4999) of a half", half.evenings(4999), 1);
        DOC.due("evenings(5000) of a half", half.evenings(5000), 0);
        DOC.due("evenings(5001) of a half", half.evenings(5001), 0);
        // Three times to the LEFT by a quarter: 1/64 is 156.25.
        EitherPocket rare = Check.laid("b3,0;h0,1;e3;");
        DOC.due("evenings(156) of 156.25", rare.evenings(156), 1);
        DOC.due("evenings(157) of 156.25", rare.evenings(157), 0);
        DOC.due("evenings(1), none", Check.laid("b0,0;e1;").evenings(1), 0);
        DOC.due("evenings(1), never one whole", Check.laid("b4,4;h2,4;e9;").evenings(1), 0);
        DOC.due("evenings(9999), just one whole", Check.laid("b5,4;h2,4;e9;").evenings(9999), 1);
        DOC.due("evenings(9999), 10 would do", Check.laid("h2,4;e2;").evenings(9999), 7);
        DOC.due("evenings(1), 10 would do", Check.laid("h2,4;e2;").evenings(1), 7);
        DOC.due("evenings(9999), 6 of 3", Check.laid("h2,4;e3;").evenings(9999), 6);
        DOC.due("evenings(1), 7 of 3 is 21", Check.laid("h2,4;e3;").evenings(1), 6);
        DOC.due("evenings(9999), 2 of 9", Check.laid("h2,4;e9;").evenings(9999), 2);
        DOC.due("evenings(9999), 7 of 1", Check.laid("b7,0;h0,4;e1;").evenings(9999), 7);
        DOC.due("evenings(9999), 6 of 1", Check.laid("b6,0;h0,4;e1;").evenings(9999), 6);
        DOC.says("int evenings(int y): EVENINGS. BAD.");
        for (int y : new int[] {0, 10000, -1, 10001, Integer.MIN_VALUE, Integer.MAX_VALUE}) {
            DOC.due("evenings(" + y + ")", half.evenings(y), BAD);
        }
    }

    private static void which() {
        DOC.says("WHICH: how likely it is the LEFT box that is FOUND EMPTY first.");
        DOC.due("which(), always left", Check.laid("h0,4;").which(), 10000);
        DOC.due("which(), always right", Check.laid("h0,0;").which(), 0);
        DOC.due("which(), both are empty", Check.laid("b0,0;h0,1;").which(), 2500);
        DOC.due("which(), the left one is empty but not found so", Check.laid("b0,10;h0,0;").which(), 0);
        DOC.due("which(), the right one is empty but not found so", Check.laid("b10,0;h0,4;").which(), 10000);
        DOC.due("which(), the first time", Check.laid("b0,1;h0,2;").which(), 7500);
        DOC.due("which(), the other way round", Check.laid("b1,0;h0,2;").which(), 2500);
    }

    private static void better() {
        DOC.says("BETTER of two HANDS (K, X; K, X): the one by which TIMES till END 0 are more (exactly): "
            + "1, 2; 0, if as many.");
        EitherPocket p = Check.laid("b3,1;h0,2;");
        DOC.due("better(0, 4, 0, 0)", p.better(0, 4, 0, 0), 1);
        DOC.due("better(0, 0, 0, 4)", p.better(0, 0, 0, 4), 2);
        DOC.due("better of the same", p.better(3, 4, 3, 4), 0);
        for (int kind = 1; kind <= 3; kind++) {
            DOC.due("better of as many by another kind", p.better(0, 2, kind, 2), 0);
        }
        DOC.due("better, both are empty", Check.laid("b0,0;").better(0, 0, 3, 4), 0);
        EitherPocket near = Check.laid("b1,4;h0,3;");
        DOC.due("times(0) by 0, 3", near.times(0), 265);
        DOC.due("better(0, 3, 2, 1), by less than a hundredth", near.better(0, 3, 2, 1), 1);
        DOC.due("better(2, 1, 0, 3), by less than a hundredth", near.better(2, 1, 0, 3), 2);
        near.hand(2, 1);
        DOC.due("times(0) by 2, 1", near.times(0), 265);
        DOC.says("int better(int kind, int x, int other, int y): BETTER. BAD.");
        int[] no = {-1, Integer.MIN_VALUE, Integer.MAX_VALUE};
        for (int w : no) {
            betterIsBad(p, w, w);
        }
        betterIsBad(p, 4, 5);
        DOC.due("count(1), the hand stays", p.count(1), 0);
        DOC.due("count(2), the hand stays", p.count(2), 2);
        DOC.due("count(6), it is no act", p.count(6), 0);
    }

    private static void betterIsBad(EitherPocket p, int kind, int x) {
        DOC.due("better(" + kind + ", 0, 0, 0)", p.better(kind, 0, 0, 0), BAD);
        DOC.due("better(0, " + x + ", 0, 0)", p.better(0, x, 0, 0), BAD);
        DOC.due("better(0, 0, " + kind + ", 0)", p.better(0, 0, kind, 0), BAD);
        DOC.due("better(0, 0, 0, " + x + ")", p.better(0, 0, 0, x), BAD);
        DOC.due("better of the same wrong ones", p.better(kind, x, kind, x), BAD);
    }

    private static void coat(String text, int z, int n, int bought, int matches) {
        EitherPocket p = Check.laid(text);
        String call = "coat(" + z + ", " + n + ", ";
        DOC.due(call + "0) of " + text, p.coat(z, n, 0), bought);
        DOC.due(call + "1) of " + text, p.coat(z, n, 1), matches);
        DOC.due("count(6), it is no act", p.count(6), 0);
    }

    private static void coatNumbers() {
        DOC.says("A COAT by z (0 to 9999) of n (1 to 60) REACHES from now on");
        coat("b10,10;h0,4;", 0, 1, 0, 19);
        coat("b10,10;h0,4;", 9999, 1, 0, 19);
        coat("b10,10;h0,4;", 0, 60, 5, 15);
        coat("b10,10;h0,4;", 9999, 60, 5, 15);
        EitherPocket p = Check.laid("b3,0;h0,4;");
        DOC.due("coat(0, 3, 1)", p.coat(0, 3, 1), 0);
        p.reach(0);
        DOC.due("coat(0, 3, 1), from now on", p.coat(0, 3, 1), 10);
        DOC.says("A COAT: how often (what = 0), how many (1). BAD.");
        for (int z : new int[] {-1, 10000, Integer.MIN_VALUE, Integer.MAX_VALUE}) {
            DOC.due("coat(" + z + ", 1, 0)", p.coat(z, 1, 0), BAD);
        }
        for (int n : new int[] {0, 61, -1, Integer.MIN_VALUE, Integer.MAX_VALUE}) {
            DOC.due("coat(0, " + n + ", 0)", p.coat(0, n, 0), BAD);
        }
        for (int what : WRONG) {
            DOC.due("coat(0, 1, " + what + ")", p.coat(0, 1, what), BAD);
        }
        DOC.due("box(0), nothing is taken", p.box(0), 2);
        DOC.due("count(4), nothing is taken", p.count(4), 0);
    }

    private static void coatBought() {
        DOC.says("a box that is FOUND EMPTY is BOUGHT anew at once: how often that was; "
            + "how many MATCHES are in both then.");
        coat("b0,0;h0,4;", 5, 1, 1, 10);
        coat("b0,0;h0,0;", 5, 1, 1, 10);
        coat("b0,0;h0,4;", 5, 2, 1, 9);
        coat("b0,0;h0,4;", 5, 11, 1, 0);
        coat("b0,0;h0,4;", 5, 12, 2, 10);
        coat("b1,7;h0,4;", 5, 1, 0, 7);
        coat("b1,7;h0,4;", 5, 2, 1, 17);
        // The reach that finds it empty is the last time: WONTED goes on there, or goes over.
        coat("b0,5;h1,4;l0;", 5, 3, 1, 13);
        coat("b0,5;h1,0;l1;", 5, 2, 1, 14);
        // By the matches then: from the fuller one, so the bought one is next.
        coat("b0,0;h2,4;", 0, 2, 1, 9);
    }

    private static void coatDraws() {
        DOC.says("to the LEFT, if DRAW modulo 4 is less than the QUARTERS to the LEFT, DRAW being "
            + "((x times x) modulo 65521) by 8, cut, x 7919 z, 6151 (the REACH, 0 first) and 1 together");
        for (int z : new int[] {0, 1, 77, 4999, 5000, 9998, 9999}) {
            for (int x = 0; x <= 4; x++) {
                StringBuilder got = new StringBuilder();
                StringBuilder want = new StringBuilder();
                for (int n = 1; n <= 10; n++) {
                    // Only one of both boxes can be found empty: how often tells the side.
                    got.append(Check.laid("b0,10;h0," + x + ";").coat(z, n, 0)).append(' ');
                    want.append(boughtLeft(z, n, x)).append(' ');
                }
                DOC.dueText("how often by z " + z + ", X " + x, got.toString(), want.toString());
            }
        }
    }

    private static int boughtLeft(int z, int n, int x) {
        int left = 0;
        int bought = 0;
        for (long time = 0; time < n; time++) {
            java.math.BigInteger sum = java.math.BigInteger.valueOf(7919L * z + 6151L * time + 1);
            int draw = sum.modPow(java.math.BigInteger.TWO, java.math.BigInteger.valueOf(65521)).intValue() / 8;
            if (draw % 4 < x) {
                left--;
                if (left < 0) {
                    left = 10;
                    bought++;
                }
            }
        }
        return bought;
    }
}
