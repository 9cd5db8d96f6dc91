/** Each promise by answers worked out by hand: ordinary ones, the edges, wrong numbers. */
public final class PromiseTest {
    private static final Check CHECK = new Check("PromiseTest");
    private static final int[] WRONG = {-1, 2, Integer.MIN_VALUE, Integer.MAX_VALUE};
    private static final int BAD = EitherPocket.BAD, NO = EitherPocket.NO;
    private static final int FULL = EitherPocket.FULL, NONE = EitherPocket.NONE;
    /** Two left, one right, each as likely: small enough to be worked out on paper. */
    private static final String SMALL = "b2,1;h0,2;e1;";

    public static void main(String[] args) {
        newObject();
        write();
        wipe();
        fault();
        lay();
        boxAndQuarters();
        reach();
        putOver();
        buy();
        hand();
        undo();
        left();
        mean();
        soon();
        times();
        likeliest();
        level();
        worth();
        begin();
        over();
        seenAndForget();
        fits();
        asLikely();
        evenings();
        which();
        better();
        coat();
        keepAndBack();
        count();
        CHECK.end();
    }

    private static void due(int promise, String call, long got, long want) {
        CHECK.due("promise " + promise + ": " + call, got, want);
    }

    private static void newObject() {
        EitherPocket p = new EitherPocket();
        int[] first = {10, 2, 3, 2, 2, 0, 0, 0, 0};
        for (int what = 0; what < first.length; what++) {
            due(1, "count(" + what + ")", p.count(what), first[what]);
        }
        due(1, "box(0)", p.box(0), 6);
        due(1, "box(1)", p.box(1), 4);
        due(1, "fault()", p.fault(), NONE);
        due(1, "undo()", p.undo(), NO);
        due(1, "back()", p.back(), NO);
        due(1, "forget()", p.forget(), 0);
    }

    private static void write() {
        EitherPocket p = new EitherPocket();
        due(2, "write(31)", p.write(31), BAD);
        due(2, "write(127)", p.write(127), BAD);
        due(2, "write(-1)", p.write(-1), BAD);
        due(2, "write(65568)", p.write(65568), BAD);
        due(2, "write(32)", p.write(32), 1);
        due(2, "write(126)", p.write(126), 2);
        for (int i = 3; i <= 200; i++) {
            due(2, "write(98)", p.write(98), i);
        }
        due(2, "write(98) at 200", p.write(98), FULL);
        due(2, "write(31) at 200", p.write(31), BAD);
        due(2, "count(8)", p.count(8), 200);
    }

    private static void wipe() {
        EitherPocket p = new EitherPocket();
        due(3, "wipe() of none", p.wipe(), 0);
        Check.type(p, "b1,");
        due(3, "wipe()", p.wipe(), 3);
        due(3, "count(8)", p.count(8), 0);
        due(3, "fault()", p.fault(), NONE);
        Check.type(p, "e9;");
        p.lay();
        due(3, "wipe() behind lay()", p.wipe(), 3);
        due(3, "count(3) is as laid", p.count(3), 9);
    }

    private static void faultOf(String letters, int want) {
        EitherPocket p = new EitherPocket();
        Check.type(p, letters);
        due(4, "fault() of " + letters, p.fault(), want);
        due(4, "count(8) of " + letters, p.count(8), letters.length());
        due(5, "lay() of " + letters, Math.min(p.lay(), 0), want == NONE ? 0 : NO);
    }

    private static void fault() {
        String[] right = {"", "b0,0;", "b10,10;", "b00,09;", "h0,0;", "h3,4;", "h03,04;", "l0;", "l01;",
            "e1;", "e9;", "e09;", "b1,1;b2,2;", "l0;e4;h1,1;b7,8;l1;"};
        for (String letters : right) {
            faultOf(letters, NONE);
        }
        String[] wrong = {"b11,0;", "b0,11;", "b1;", "b1,2,3;", "b001,2;", "b1,002;", "b,1;", "b1,;", "b1,2",
            "b1,2,", "b", "b;", "b1", "b1,", "h4,0;", "h0,5;", "h1;", "h0,0,0;", "l2;", "l10;", "l;", "l0,1;",
            "e0;", "e10;", "e;", "e3,3;", "e00;", "x1;", "B1,1;", " b1,1;", "b 1,1;", "b1,1 ;", ";", "1;",
            "b1;1;", "b-1,1;", "l0,", "l", "~"};
        for (String letters : wrong) {
            faultOf(letters, 0);
            faultOf("e1;" + letters, 3);
            faultOf("b10,9;h1,3;" + letters, 11);
        }
        faultOf("e1;;", 3);
        faultOf("e0;b99,99;", 0);
        faultOf("b1,1;b1,11;h9,9;", 5);
        faultOf("b1,1; ", 5);
        faultOf("b1,1;".repeat(40), NONE);
        faultOf("e1;".repeat(66) + "e1", 198);
        faultOf("b1,1;".repeat(39) + "b1,11", 195);
        EitherPocket p = new EitherPocket();
        Check.type(p, "b1,10;");
        p.wipe();
        Check.type(p, "b1,1");
        due(4, "fault() with letters wiped behind the last one", p.fault(), 0);
    }

    private static void lay() {
        EitherPocket p = new EitherPocket();
        p.reach(0);
        p.keep();
        p.seen(1, 1);
        Check.type(p, "b3,4;h1,0;l1;e9;b2,9;h3,1;l0;e7;");
        due(5, "lay()", p.lay(), 11);
        int[] laid = {11, 3, 1, 7, 0, 0, 0, 0, 32};
        for (int what = 0; what < laid.length; what++) {
            due(5, "count(" + what + ")", p.count(what), laid[what]);
        }
        due(5, "box(0)", p.box(0), 2);
        due(5, "box(1)", p.box(1), 9);
        p.reach(1);
        p.seen(0, 0);
        p.keep();
        p.write('x');
        due(5, "lay() with a fault", p.lay(), NO);
        int[] same = {10, 3, 1, 7, 1, 1, 1, 1, 33};
        for (int what = 0; what < same.length; what++) {
            due(5, "count(" + what + ") as before", p.count(what), same[what]);
        }
        p.wipe();
        due(5, "lay() of no letters", p.lay(), 20);
        int[] without = {20, 0, 2, 3, 2, 0, 0, 0, 0};
        for (int what = 0; what < without.length; what++) {
            due(5, "count(" + what + ") without", p.count(what), without[what]);
        }
    }

    private static void boxAndQuarters() {
        EitherPocket p = Check.laid("b3,8;");
        due(6, "box(0)", p.box(0), 3);
        due(6, "box(1)", p.box(1), 8);
        for (int side : WRONG) {
            due(6, "box(" + side + ")", p.box(side), BAD);
            due(7, "quarters(" + side + ")", p.quarters(side), BAD);
        }
        String[] hands = {"h0,1;b3,8;", "h0,1;b8,3;l1;", "h1,1;l0;", "h1,1;l1;", "h1,1;", "h2,1;b8,3;",
            "h2,1;b3,8;", "h2,1;b5,5;", "h3,1;b3,8;", "h3,1;b8,3;", "h3,1;b5,5;", "h3,0;b0,0;", "h2,4;b0,1;"};
        int[] toLeft = {1, 1, 1, 3, 2, 1, 3, 2, 1, 3, 2, 2, 0};
        for (int i = 0; i < hands.length; i++) {
            EitherPocket q = Check.laid(hands[i]);
            due(7, "quarters(0) of " + hands[i], q.quarters(0), toLeft[i]);
            due(7, "quarters(1) of " + hands[i], q.quarters(1), 4 - toLeft[i]);
        }
    }

    private static void reach() {
        EitherPocket p = Check.laid("b1,2;h1,4;");
        due(8, "reach(0)", p.reach(0), 0);
        due(8, "count(4)", p.count(4), 0);
        due(8, "reach(1)", p.reach(1), 1);
        due(8, "count(4)", p.count(4), 1);
        due(8, "reach(0) of none", p.reach(0), -5);
        due(8, "count(4) found empty", p.count(4), 0);
        due(8, "count(0)", p.count(0), 1);
        due(8, "quarters(0) found empty", p.quarters(0), 4);
        for (int side : WRONG) {
            due(8, "reach(" + side + ")", p.reach(side), BAD);
        }
        due(8, "count(6)", p.count(6), 3);
        // one can reach even where the hand never would
        due(8, "reach(1) against the hand", p.reach(1), 0);
    }

    private static void putOver() {
        EitherPocket p = Check.laid("b3,8;l1;");
        due(9, "putOver(2, 1)", p.putOver(2, 1), BAD);
        due(9, "putOver(-1, 1)", p.putOver(-1, 1), BAD);
        due(9, "putOver(0, 0)", p.putOver(0, 0), BAD);
        due(9, "putOver(0, 11)", p.putOver(0, 11), BAD);
        due(9, "putOver(0, -1)", p.putOver(0, -1), BAD);
        due(9, "putOver(0, 4)", p.putOver(0, 4), NO);
        due(9, "putOver(0, 3)", p.putOver(0, 3), FULL);
        due(9, "count(6)", p.count(6), 0);
        due(9, "putOver(0, 2)", p.putOver(0, 2), 1);
        due(9, "box(1)", p.box(1), 10);
        due(9, "putOver(1, 9)", p.putOver(1, 9), 1);
        due(9, "box(0)", p.box(0), 10);
        due(9, "putOver(1, 1)", p.putOver(1, 1), FULL);
        due(9, "putOver(1, 2)", p.putOver(1, 2), NO);
        due(9, "count(4)", p.count(4), 1);
        due(9, "count(6)", p.count(6), 2);
        EitherPocket all = Check.laid("b10,0;");
        due(9, "putOver(0, 10)", all.putOver(0, 10), 0);
        due(9, "box(1)", all.box(1), 10);
    }

    private static void buy() {
        EitherPocket p = Check.laid("b3,0;l0;");
        due(10, "buy(1)", p.buy(1), 0);
        due(10, "box(1)", p.box(1), 10);
        due(10, "buy(1) again", p.buy(1), 10);
        due(10, "buy(0)", p.buy(0), 3);
        due(10, "count(0)", p.count(0), 20);
        due(10, "count(4)", p.count(4), 0);
        for (int side : WRONG) {
            due(10, "buy(" + side + ")", p.buy(side), BAD);
        }
        due(10, "count(6)", p.count(6), 3);
    }

    private static void hand() {
        EitherPocket p = new EitherPocket();
        due(11, "hand(0, 0)", p.hand(0, 0), 23);
        due(11, "hand(3, 4)", p.hand(3, 4), 0);
        due(11, "hand(3, 4) again", p.hand(3, 4), 34);
        due(11, "hand(4, 0)", p.hand(4, 0), BAD);
        due(11, "hand(-1, 0)", p.hand(-1, 0), BAD);
        due(11, "hand(0, 5)", p.hand(0, 5), BAD);
        due(11, "hand(0, -1)", p.hand(0, -1), BAD);
        due(11, "count(1)", p.count(1), 3);
        due(11, "count(2)", p.count(2), 4);
        due(11, "count(6)", p.count(6), 3);
    }

    private static void undo() {
        EitherPocket p = Check.laid("b5,5;h1,1;");
        p.reach(0);
        p.reach(1);
        p.putOver(0, 2);
        p.buy(0);
        p.hand(2, 4);
        p.seen(1, 1);
        due(12, "undo() of hand", p.undo(), 4);
        due(12, "count(1)", p.count(1), 1);
        due(12, "count(2)", p.count(2), 1);
        due(12, "undo() of buy", p.undo(), 3);
        due(12, "box(0)", p.box(0), 2);
        due(12, "undo() of putOver", p.undo(), 2);
        due(12, "box(0)", p.box(0), 4);
        due(12, "box(1)", p.box(1), 4);
        due(12, "undo() of reach", p.undo(), 1);
        due(12, "count(4)", p.count(4), 0);
        due(12, "undo() of reach", p.undo(), 0);
        due(12, "count(4)", p.count(4), 2);
        due(12, "undo() of none", p.undo(), NO);
        due(12, "count(5)", p.count(5), 1);
        for (int i = 0; i < 9; i++) {
            p.reach(i % 2);
        }
        due(12, "count(6) at most", p.count(6), 8);
        for (int i = 7; i >= 0; i--) {
            due(12, "undo()", p.undo(), i);
        }
        due(12, "the ninth undo()", p.undo(), NO);
        due(12, "box(0) behind the first reach", p.box(0), 4);
        due(12, "box(1) behind the first reach", p.box(1), 5);
    }

    private static void left() {
        EitherPocket p = Check.laid(SMALL);
        int[] found = {3750, 3750, 2500, 0};
        int[] emptied = {0, 5000, 5000, 0};
        for (int k = 0; k < 4; k++) {
            due(13, "left(0, " + k + ")", p.left(0, k), found[k]);
            due(13, "left(1, " + k + ")", p.left(1, k), emptied[k]);
        }
        due(13, "left(0, 10)", p.left(0, 10), 0);
        due(13, "left(0, 11)", p.left(0, 11), BAD);
        due(13, "left(0, -1)", p.left(0, -1), BAD);
        for (int end : WRONG) {
            due(13, "left(" + end + ", 0)", p.left(end, 0), BAD);
        }
        due(13, "left(1, 7), one is empty", Check.laid("b7,0;").left(1, 7), 10000);
        due(13, "left(1, 0), both are empty", Check.laid("b0,0;").left(1, 0), 10000);
    }

    private static void mean() {
        EitherPocket p = Check.laid(SMALL);
        due(14, "mean(0)", p.mean(0), 87);
        due(14, "mean(1)", p.mean(1), 150);
        for (int end : WRONG) {
            due(14, "mean(" + end + ")", p.mean(end), BAD);
        }
        due(14, "mean(1), one is empty", Check.laid("b0,9;").mean(1), 900);
    }

    private static void soon() {
        EitherPocket p = Check.laid(SMALL);
        int[] found = {0, 0, 2500, 6250, 10000, 10000};
        int[] emptied = {0, 5000, 10000, 10000, 10000, 10000};
        for (int n = 0; n < found.length; n++) {
            due(15, "soon(0, " + n + ")", p.soon(0, n), found[n]);
            due(15, "soon(1, " + n + ")", p.soon(1, n), emptied[n]);
        }
        due(15, "soon(0, 21)", p.soon(0, 21), 10000);
        due(15, "soon(0, 22)", p.soon(0, 22), BAD);
        due(15, "soon(0, -1)", p.soon(0, -1), BAD);
        for (int end : WRONG) {
            due(15, "soon(" + end + ", 1)", p.soon(end, 1), BAD);
        }
        due(15, "soon(1, 0), one is empty", Check.laid("b0,9;").soon(1, 0), 10000);
        due(15, "soon(0, 0), one is empty", Check.laid("b0,9;").soon(0, 0), 0);
        due(15, "soon(0, 20) of the fuller one", Check.laid("h2,4;").soon(0, 20), 0);
        due(15, "soon(0, 21) of the fuller one", Check.laid("h2,4;").soon(0, 21), 10000);
    }

    private static void times() {
        EitherPocket p = Check.laid(SMALL);
        due(16, "times(0)", p.times(0), 312);
        due(16, "times(1)", p.times(1), 150);
        for (int end : WRONG) {
            due(16, "times(" + end + ")", p.times(end), BAD);
        }
        due(16, "times(0), both are empty", Check.laid("b0,0;").times(0), 100);
        due(16, "times(1), one is empty", Check.laid("b0,9;").times(1), 0);
        due(16, "times(0) of the fuller one", Check.laid("h2,4;").times(0), 2100);
        due(16, "times(1) of the fuller one", Check.laid("h2,4;").times(1), 1900);
    }

    private static void likeliest() {
        EitherPocket p = Check.laid(SMALL);
        due(17, "likeliest(0), of two the fewest", p.likeliest(0), 0);
        due(17, "likeliest(1), of two the fewest", p.likeliest(1), 1);
        for (int end : WRONG) {
            due(17, "likeliest(" + end + ")", p.likeliest(end), BAD);
        }
        due(17, "likeliest(0), always left", Check.laid("b3,9;h0,4;").likeliest(0), 9);
        due(17, "likeliest(1), one is empty", Check.laid("b3,0;").likeliest(1), 3);
    }

    private static void level() {
        EitherPocket p = Check.laid(SMALL);
        int[] want = {0, 5000, 0, 3750, 0};
        for (int n = 0; n < want.length; n++) {
            due(18, "level(" + n + ")", p.level(n), want[n]);
        }
        due(18, "level(20)", p.level(20), 0);
        due(18, "level(21)", p.level(21), BAD);
        due(18, "level(-1)", p.level(-1), BAD);
        due(18, "level(0), as many", Check.laid("b0,0;").level(0), 10000);
        due(18, "level(20) of the fuller one", Check.laid("h2,4;").level(20), 10000);
    }

    private static void worth() {
        EitherPocket p = Check.laid(SMALL);
        due(19, "worth(0)", p.worth(0), 10037);
        due(19, "worth(1)", p.worth(1), 10100);
        for (int side : WRONG) {
            due(19, "worth(" + side + ")", p.worth(side), BAD);
        }
        due(19, "worth(0) of 10", Check.laid("b10,3;").worth(0), FULL);
        due(19, "worth(1) of 9", Check.laid("b10,9;h2,4;").worth(1), 10100);
        // Always from the fewer: 1,1 lasts 2 reaches, 2,1 too; one more makes it no better.
        due(19, "worth(0), from the fewer", Check.laid("b1,1;h3,4;").worth(0), 10000);
        // By three quarters from the fewer: 1,1 lasts 2 16/64 reaches, 2,1 lasts 2 35/64.
        due(19, "worth(0), mostly from the fewer", Check.laid("b1,1;h3,3;").worth(0), 10029);
        // Alternating, to the RIGHT next: one more in the LEFT box gains nothing.
        due(19, "worth(0), alternating", Check.laid("b1,1;h1,0;l0;").worth(0), 10000);
        due(19, "worth(1), alternating", Check.laid("b1,1;h1,0;l0;").worth(1), 10100);
        due(19, "count(0)", p.count(0), 3);
    }

    private static void begin() {
        EitherPocket p = Check.laid(SMALL);
        due(20, "begin(3, 3, 0), of two the fewest", p.begin(3, 3, 0), 1);
        due(20, "begin(3, 3, 1)", p.begin(3, 3, 1), 3750);
        due(20, "begin(20, 0, 0)", p.begin(20, 0, 0), 10);
        due(20, "begin(11, 0, 0)", p.begin(11, 0, 0), 1);
        due(20, "begin(11, 0, 1)", p.begin(11, 0, 1), 10000);
        due(20, "begin(20, 21, 1)", p.begin(20, 21, 1), 0);
        due(20, "begin(0, 0, 0)", p.begin(0, 0, 0), 0);
        due(20, "begin(0, 1, 1)", p.begin(0, 1, 1), 0);
        due(20, "begin(-1, 0, 0)", p.begin(-1, 0, 0), BAD);
        due(20, "begin(21, 0, 0)", p.begin(21, 0, 0), BAD);
        due(20, "begin(0, -1, 0)", p.begin(0, -1, 0), BAD);
        due(20, "begin(0, 22, 0)", p.begin(0, 22, 0), BAD);
        for (int what : WRONG) {
            due(20, "begin(0, 0, " + what + ")", p.begin(0, 0, what), BAD);
        }
        // The hand alternates, so who comes first is told by the last one as now.
        due(20, "begin(3, 3, 0), RIGHT was last", Check.laid("h1,0;l1;").begin(3, 3, 0), 2);
        due(20, "begin(3, 3, 0), LEFT was last", Check.laid("h1,0;l0;").begin(3, 3, 0), 1);
        due(20, "box(0)", p.box(0), 2);
    }

    private static void over() {
        EitherPocket p = Check.laid(SMALL);
        due(21, "over(0)", p.over(0), 10);
        due(21, "over(1)", p.over(1), 312);
        for (int what : WRONG) {
            due(21, "over(" + what + ")", p.over(what), BAD);
        }
        EitherPocket leftOnly = Check.laid("b3,0;h0,2;");
        due(21, "over(0), of two the fewest", leftOnly.over(0), 11);
        due(21, "over(1)", leftOnly.over(1), 312);
        EitherPocket rightOnly = Check.laid("b0,3;h0,2;");
        due(21, "over(0), from RIGHT", rightOnly.over(0), 9);
        due(21, "over(0), 10 at most", Check.laid("b10,7;h0,0;").over(0), 13);
        due(21, "over(1), 10 at most", Check.laid("b10,7;h0,0;").over(1), 1100);
        due(21, "over(0), all of 10", Check.laid("b10,0;h0,0;").over(0), 20);
        due(21, "over(0), all of 10 from RIGHT", Check.laid("b0,10;h0,4;").over(0), 0);
        due(21, "box(0)", rightOnly.box(0), 0);
    }

    private static void seenAndForget() {
        EitherPocket p = new EitherPocket();
        due(22, "seen(11, 0)", p.seen(11, 0), BAD);
        due(22, "seen(0, 11)", p.seen(0, 11), BAD);
        due(22, "seen(-1, 0)", p.seen(-1, 0), BAD);
        due(22, "seen(0, -1)", p.seen(0, -1), BAD);
        for (int i = 1; i <= 6; i++) {
            due(22, "seen(10, 0)", p.seen(10, 0), i);
        }
        due(22, "the seventh", p.seen(0, 10), FULL);
        due(22, "the seventh, wrong", p.seen(0, 11), BAD);
        due(22, "count(5)", p.count(5), 6);
        due(23, "forget()", p.forget(), 6);
        due(23, "forget() again", p.forget(), 0);
        due(23, "count(5)", p.count(5), 0);
        due(23, "fits()", p.fits(), 15);
        due(23, "seen(0, 0)", p.seen(0, 0), 1);
    }

    private static void fits() {
        EitherPocket p = Check.laid(SMALL);
        due(24, "fits(), nothing seen", p.fits(), 15);
        p.seen(2, 0);
        p.seen(1, 0);
        due(24, "fits()", p.fits(), 15);
        p.seen(1, 0);
        due(24, "fits(), none was taken", p.fits(), 0);
        p.forget();
        p.seen(0, 1);
        due(24, "fits(), two were taken", p.fits(), 0);
        p.reach(0);
        due(24, "fits(), from now on", p.fits(), 15);
        p.undo();
        due(24, "fits(), undone", p.fits(), 0);
        p.forget();
        p.seen(3, 0);
        due(24, "fits(), one more in the left", p.fits(), 0);
    }

    private static void asLikely() {
        EitherPocket p = Check.laid(SMALL);
        for (int kind = 0; kind < 4; kind++) {
            due(25, "asLikely(" + kind + ", 0), nothing seen", p.asLikely(kind, 0), 0);
            due(25, "asLikely(" + kind + ", 1), nothing seen", p.asLikely(kind, 1), 10000);
        }
        p.seen(2, 0);
        p.seen(1, 0);
        int[] best = {2, 0, 2, 2};
        int[] chance = {2500, 5000, 2500, 2500};
        for (int kind = 0; kind < 4; kind++) {
            due(25, "asLikely(" + kind + ", 0)", p.asLikely(kind, 0), best[kind]);
            due(25, "asLikely(" + kind + ", 1)", p.asLikely(kind, 1), chance[kind]);
        }
        p.seen(1, 1);
        due(25, "asLikely(0, 0), not possible", p.asLikely(0, 0), NONE);
        due(25, "asLikely(0, 1), not possible", p.asLikely(0, 1), NONE);
        for (int what : WRONG) {
            due(25, "asLikely(0, " + what + ")", p.asLikely(0, what), BAD);
        }
        due(25, "asLikely(4, 0)", p.asLikely(4, 0), BAD);
        due(25, "asLikely(-1, 0)", p.asLikely(-1, 0), BAD);
        // WONTED, last RIGHT, the RIGHT one again: only by 4 quarters less X to the LEFT.
        EitherPocket again = Check.laid("b5,5;h0,2;l1;e2;");
        again.seen(5, 3);
        due(25, "asLikely(1, 0), again", again.asLikely(1, 0), 4);
        due(25, "asLikely(1, 1), again", again.asLikely(1, 1), 10000);
        due(25, "count(1)", again.count(1), 0);
    }

    private static void evenings() {
        EitherPocket p = Check.laid(SMALL);
        int[] y = {1, 3749, 3750, 7499, 7500, 9999};
        int[] want = {3, 3, 2, 2, 1, 1};
        for (int i = 0; i < y.length; i++) {
            due(26, "evenings(" + y[i] + ")", p.evenings(y[i]), want[i]);
        }
        due(26, "evenings(0)", p.evenings(0), BAD);
        due(26, "evenings(10000)", p.evenings(10000), BAD);
        due(26, "evenings(-5)", p.evenings(-5), BAD);
        due(26, "evenings(9999), 7 at most", Check.laid("e1;").evenings(9999), 7);
        due(26, "evenings(9999), the fuller one", Check.laid("h2,4;e9;").evenings(9999), 2);
        due(26, "evenings(9999), 20 by 4", Check.laid("h2,4;e4;").evenings(9999), 5);
        due(26, "evenings(1), none", Check.laid("b0,0;e1;").evenings(1), 0);
    }

    private static void which() {
        due(27, "which()", Check.laid(SMALL).which(), 3125);
        due(27, "which(), always left", Check.laid("h0,4;").which(), 10000);
        due(27, "which(), always right", Check.laid("h0,0;").which(), 0);
        due(27, "which(), alternating", Check.laid("h1,0;l0;b1,1;").which(), 0);
    }

    private static void better() {
        EitherPocket p = Check.laid("b3,1;h0,2;");
        due(28, "better(0, 4, 0, 0)", p.better(0, 4, 0, 0), 1);
        due(28, "better(0, 0, 0, 4)", p.better(0, 0, 0, 4), 2);
        due(28, "better(0, 2, 3, 2)", p.better(0, 2, 3, 2), 0);
        due(28, "better(2, 4, 0, 4)", p.better(2, 4, 0, 4), 1);
        int[][] wrong = {{4, 0, 0, 0}, {-1, 0, 0, 0}, {0, 5, 0, 0}, {0, -1, 0, 0},
            {0, 0, 4, 0}, {0, 0, -1, 0}, {0, 0, 0, 5}, {0, 0, 0, -1}};
        for (int[] w : wrong) {
            due(28, "better of wrong ones", p.better(w[0], w[1], w[2], w[3]), BAD);
        }
        due(28, "count(1)", p.count(1), 0);
        due(28, "count(2)", p.count(2), 2);
        // WONTED by 4 goes on where it was: from the last one as now.
        due(28, "better(1, 4, 0, 0), LEFT was last", Check.laid("b3,1;l0;").better(1, 4, 0, 0), 1);
        due(28, "better(1, 4, 0, 0), RIGHT was last", Check.laid("b3,1;l1;").better(1, 4, 0, 0), 0);
    }

    private static void coat() {
        EitherPocket p = Check.laid(SMALL);
        // The first draws of z 0 are, modulo 4, 0, 1, 3, 0.
        int[] matches = {2, 1, 0, 10};
        int[] bought = {0, 0, 0, 1};
        for (int n = 1; n <= 4; n++) {
            due(29, "coat(0, " + n + ", 0)", p.coat(0, n, 0), bought[n - 1]);
            due(29, "coat(0, " + n + ", 1)", p.coat(0, n, 1), matches[n - 1]);
        }
        due(29, "coat(-1, 1, 0)", p.coat(-1, 1, 0), BAD);
        due(29, "coat(10000, 1, 0)", p.coat(10000, 1, 0), BAD);
        due(29, "coat(0, 0, 0)", p.coat(0, 0, 0), BAD);
        due(29, "coat(0, 61, 0)", p.coat(0, 61, 0), BAD);
        for (int what : WRONG) {
            due(29, "coat(0, 1, " + what + ")", p.coat(0, 1, what), BAD);
        }
        // Always left from 2: found empty at the third, then at each eleventh reach.
        EitherPocket always = Check.laid("b2,1;h0,4;");
        due(29, "coat(9999, 60, 0), always left", always.coat(9999, 60, 0), 6);
        due(29, "coat(9999, 60, 1), always left", always.coat(9999, 60, 1), 9);
        due(29, "box(0)", always.box(0), 2);
        due(29, "count(4)", always.count(4), 2);
        due(29, "count(6)", always.count(6), 0);
    }

    private static void keepAndBack() {
        EitherPocket p = Check.laid("b5,6;h1,3;l1;e4;");
        due(31, "back() of none", p.back(), NO);
        due(30, "keep()", p.keep(), 1);
        p.reach(0);
        p.hand(3, 0);
        p.buy(1);
        p.seen(1, 2);
        due(30, "keep()", p.keep(), 2);
        due(30, "count(6)", p.count(6), 3);
        due(30, "keep() of a third", p.keep(), FULL);
        due(30, "count(7)", p.count(7), 2);
        p.putOver(1, 1);
        due(31, "back()", p.back(), 1);
        int[] second = {14, 3, 0, 4, 0, 1, 0, 1};
        for (int what = 0; what < second.length; what++) {
            due(31, "count(" + what + ") behind back()", p.count(what), second[what]);
        }
        due(31, "undo() behind back()", p.undo(), NO);
        p.reach(1);
        due(31, "back() again", p.back(), 0);
        int[] first = {11, 1, 3, 4, 1, 1, 0, 0};
        for (int what = 0; what < first.length; what++) {
            due(31, "count(" + what + ") behind both", p.count(what), first[what]);
        }
        due(31, "box(0)", p.box(0), 5);
        p.reach(1);
        due(31, "back() of no more", p.back(), NO);
        due(31, "count(6), nothing changes", p.count(6), 1);
    }

    private static void count() {
        EitherPocket p = new EitherPocket();
        due(32, "count(-1)", p.count(-1), BAD);
        due(32, "count(9)", p.count(9), BAD);
        due(32, "count(MIN)", p.count(Integer.MIN_VALUE), BAD);
        due(32, "count(MAX)", p.count(Integer.MAX_VALUE), BAD);
        p.reach(1);
        p.keep();
        p.keep();
        p.seen(0, 0);
        p.write('b');
        int[] want = {9, 2, 3, 2, 1, 1, 1, 2, 1};
        for (int what = 0; what < want.length; what++) {
            due(32, "count(" + what + ")", p.count(what), want[what]);
        }
    }
}
