/** The boundary cases of part 2 of the document and of promises 6 to 12 and 30 to 32: acts, coats kept. */
public final class ActBoundaryTest {
    private static final Quote DOC = new Quote("ActBoundaryTest");
    private static final int BAD = EitherPocket.BAD, NO = EitherPocket.NO, FULL = EitherPocket.FULL;
    private static final int[] NO_SIDES = {-1, 2, 3, -5, 65536, Integer.MIN_VALUE, Integer.MAX_VALUE};

    public static void main(String[] args) {
        steady();
        wonted();
        rattling();
        sparing();
        toTheRightElse();
        foundEmpty();
        latestUndone();
        box();
        quarters();
        reach();
        putOver();
        buy();
        hand();
        undo();
        keptAtMost();
        keep();
        back();
        count();
        manyCalls();
        DOC.end();
    }

    private static void toLeft(String text, int want) {
        DOC.due("quarters(0) of " + text, Check.laid(text).quarters(0), want);
    }

    private static void counts(String when, EitherPocket p, int... want) {
        for (int what = 0; what < want.length; what++) {
            DOC.due(when + ", count(" + what + ")", p.count(what), want[what]);
        }
    }

    private static void boxes(String when, EitherPocket p, int left, int right) {
        DOC.due(when + ", box(0)", p.box(0), left);
        DOC.due(when + ", box(1)", p.box(1), right);
    }

    private static void steady() {
        DOC.says("STEADY X;");
        for (int x = 0; x <= 4; x++) {
            for (String rest : new String[] {"", "b9,1;", "b1,9;", "b0,0;", "l0;", "l1;", "b9,1;l1;"}) {
                toLeft("h0," + x + ";" + rest, x);
            }
        }
    }

    private static void wonted() {
        for (int x = 0; x <= 4; x++) {
            for (String rest : new String[] {"", "b9,1;", "b1,9;", "b0,0;"}) {
                DOC.says("WONTED X, if the last time was LEFT");
                toLeft("h1," + x + ";l0;" + rest, x);
                DOC.says("4 less X, if it was RIGHT, 2, if there was none");
                toLeft("h1," + x + ";l1;" + rest, 4 - x);
                toLeft("h1," + x + ";" + rest, 2);
            }
        }
    }

    private static void rattling() {
        DOC.says("RATTLING X, if more are in the LEFT box than in the RIGHT one, 4 less X, if fewer, 2, if as many");
        for (int x = 0; x <= 4; x++) {
            for (String rest : new String[] {"", "l0;", "l1;"}) {
                String hand = "h2," + x + ";" + rest;
                toLeft(hand + "b5,4;", x);
                toLeft(hand + "b10,0;", x);
                toLeft(hand + "b1,0;", x);
                toLeft(hand + "b4,5;", 4 - x);
                toLeft(hand + "b0,10;", 4 - x);
                toLeft(hand + "b0,1;", 4 - x);
                toLeft(hand + "b5,5;", 2);
                toLeft(hand + "b0,0;", 2);
                toLeft(hand + "b10,10;", 2);
            }
        }
    }

    private static void sparing() {
        DOC.says("SPARING X, if fewer are in the LEFT box, 4 less X, if more, 2, if as many");
        for (int x = 0; x <= 4; x++) {
            for (String rest : new String[] {"", "l0;", "l1;"}) {
                String hand = "h3," + x + ";" + rest;
                toLeft(hand + "b4,5;", x);
                toLeft(hand + "b0,10;", x);
                toLeft(hand + "b0,1;", x);
                toLeft(hand + "b5,4;", 4 - x);
                toLeft(hand + "b10,0;", 4 - x);
                toLeft(hand + "b1,0;", 4 - x);
                toLeft(hand + "b5,5;", 2);
                toLeft(hand + "b0,0;", 2);
                toLeft(hand + "b10,10;", 2);
            }
        }
    }

    private static void toTheRightElse() {
        DOC.says("to the RIGHT else.");
        for (int kind = 0; kind <= 3; kind++) {
            for (int x = 0; x <= 4; x++) {
                EitherPocket p = Check.laid("b5,4;l0;h" + kind + "," + x + ";");
                DOC.due("both sides of h" + kind + "," + x, p.quarters(0) + p.quarters(1), 4);
            }
        }
    }

    private static void foundEmpty() {
        DOC.says("A MATCH is taken from that box; if it is empty, it is FOUND EMPTY "
            + "(nothing is taken; that is the last time all the same).");
        EitherPocket p = Check.laid("b1,1;h1,3;");
        DOC.due("the last match is no box found empty, reach(0)", p.reach(0), 0);
        boxes("taken", p, 0, 1);
        p.reach(1);
        DOC.due("count(4)", p.count(4), 1);
        DOC.due("reach(0)", p.reach(0), -5);
        boxes("found empty", p, 0, 0);
        DOC.due("count(4)", p.count(4), 0);
        DOC.due("quarters(0) by the last time", p.quarters(0), 3);
        DOC.due("reach(1)", p.reach(1), -5);
        DOC.due("count(4)", p.count(4), 1);
        DOC.due("quarters(0) by the last time", p.quarters(0), 1);
        DOC.due("reach(1) again", p.reach(1), -5);
        boxes("found empty again", p, 0, 0);
    }

    private static void latestUndone() {
        DOC.says("UNDONE is the latest of these (the last 8 can be).");
        for (int acts = 7; acts <= 10; acts++) {
            EitherPocket p = Check.laid("b10,10;");
            for (int i = 0; i < acts; i++) {
                p.reach(0);
            }
            int can = Math.min(acts, 8);
            DOC.due("count(6) behind " + acts, p.count(6), can);
            for (int more = can - 1; more >= 0; more--) {
                DOC.due("undo() behind " + acts, p.undo(), more);
                DOC.due("box(0)", p.box(0), 10 - acts + can - more);
            }
            DOC.due("undo() of no more behind " + acts, p.undo(), NO);
            DOC.due("box(0)", p.box(0), 10 - acts + can);
        }
        EitherPocket p = Check.laid("b3,5;h1,1;l1;");
        p.reach(0);
        p.putOver(1, 2);
        p.buy(0);
        p.hand(3, 4);
        p.reach(1);
        p.undo();
        boxes("reach undone", p, 10, 3);
        DOC.due("count(4), reach undone", p.count(4), 0);
        p.undo();
        DOC.due("count(1), hand undone", p.count(1), 1);
        DOC.due("count(2), hand undone", p.count(2), 1);
        boxes("hand undone", p, 10, 3);
        p.undo();
        boxes("buy undone", p, 4, 3);
        p.undo();
        boxes("putOver undone", p, 2, 5);
        p.undo();
        counts("all undone", p, 8, 1, 1, 3, 1, 0, 0);
        p.reach(0);
        DOC.due("an act behind undo() can be undone", p.undo(), 0);
    }

    private static void box() {
        DOC.says("MATCHES in a box (0 LEFT, 1 RIGHT). BAD.");
        boxes("none and full", Check.laid("b0,10;"), 0, 10);
        boxes("full and none", Check.laid("b10,0;"), 10, 0);
        for (int side : NO_SIDES) {
            DOC.due("box(" + side + ")", new EitherPocket().box(side), BAD);
        }
    }

    private static void quarters() {
        DOC.says("QUARTERS by which the HAND REACHES to a side now. BAD.");
        EitherPocket p = Check.laid("b2,1;h2,4;");
        DOC.due("quarters(0)", p.quarters(0), 4);
        DOC.due("quarters(1)", p.quarters(1), 0);
        p.reach(0);
        DOC.due("quarters(0), now as many", p.quarters(0), 2);
        p.reach(0);
        DOC.due("quarters(0), now fewer", p.quarters(0), 0);
        DOC.due("quarters(1), now fewer", p.quarters(1), 4);
        p.hand(1, 3);
        DOC.due("quarters(0), the hand altered", p.quarters(0), 3);
        for (int side : NO_SIDES) {
            DOC.due("quarters(" + side + ")", p.quarters(side), BAD);
        }
    }

    private static void reach() {
        DOC.says("One REACHES to a side: how many are left in it; -5: FOUND EMPTY. BAD.");
        EitherPocket p = Check.laid("b10,1;h0,0;");
        DOC.due("reach(0) where the hand never would", p.reach(0), 9);
        DOC.due("reach(1) of one", p.reach(1), 0);
        DOC.due("reach(1) of none", p.reach(1), -5);
        DOC.due("found empty is an act, count(6)", p.count(6), 3);
        for (int side : NO_SIDES) {
            DOC.due("reach(" + side + ")", p.reach(side), BAD);
        }
        counts("behind wrong sides", p, 9, 0, 0, 3, 1, 0, 3);
        DOC.due("undo() of what was found empty", p.undo(), 2);
        boxes("undone", p, 9, 0);
        p.undo();
        DOC.due("count(4), undone", p.count(4), 0);
    }

    private static void putOver() {
        DOC.says("k (1 to 10) MATCHES are PUT OVER from a side: how many are left in it. "
            + "BAD; NO: there are not so many; FULL: more than 10 there.");
        EitherPocket all = Check.laid("b10,0;l1;");
        DOC.due("putOver(0, 10)", all.putOver(0, 10), 0);
        boxes("all put over", all, 0, 10);
        DOC.due("putOver(1, 10)", all.putOver(1, 10), 0);
        boxes("all put back", all, 10, 0);
        DOC.due("count(4), it is no REACH", all.count(4), 1);
        EitherPocket p = Check.laid("b3,8;");
        DOC.due("putOver(0, 0)", p.putOver(0, 0), BAD);
        DOC.due("putOver(0, -1)", p.putOver(0, -1), BAD);
        DOC.due("putOver(0, 11)", p.putOver(0, 11), BAD);
        DOC.due("putOver(0, MIN)", p.putOver(0, Integer.MIN_VALUE), BAD);
        DOC.due("putOver(0, MAX)", p.putOver(0, Integer.MAX_VALUE), BAD);
        for (int side : NO_SIDES) {
            DOC.due("putOver(" + side + ", 1)", p.putOver(side, 1), BAD);
            DOC.due("putOver(" + side + ", 10)", p.putOver(side, 10), BAD);
        }
        DOC.due("one more than there are", p.putOver(0, 4), NO);
        DOC.due("not so many and more than 10 there", p.putOver(0, 10), NO);
        DOC.due("one more than 10 there", p.putOver(0, 3), FULL);
        boxes("nothing put over", p, 3, 8);
        DOC.due("count(6), nothing put over", p.count(6), 0);
        DOC.due("just 10 there", p.putOver(0, 2), 1);
        boxes("just 10", p, 1, 10);
        DOC.due("into a full box", p.putOver(0, 1), FULL);
        EitherPocket none = Check.laid("b0,5;");
        DOC.due("out of an empty box", none.putOver(0, 1), NO);
        DOC.due("just so many as there are", none.putOver(1, 5), 0);
        boxes("all of five", none, 5, 0);
    }

    private static void buy() {
        DOC.says("A box is BOUGHT for a side: how many were in the old one. BAD.");
        EitherPocket p = Check.laid("b0,9;l1;");
        DOC.due("buy(0) for an empty one", p.buy(0), 0);
        boxes("bought", p, 10, 9);
        DOC.due("buy(0) for a full one", p.buy(0), 10);
        DOC.due("buy(1)", p.buy(1), 9);
        boxes("bought", p, 10, 10);
        DOC.due("count(4), it is no REACH", p.count(4), 1);
        for (int side : NO_SIDES) {
            DOC.due("buy(" + side + ")", p.buy(side), BAD);
        }
        DOC.due("count(6), a full one for a full one too", p.count(6), 3);
        DOC.says("a full box of 10 be BOUGHT in the place of one");
        p.undo();
        p.undo();
        p.undo();
        boxes("all undone", p, 0, 9);
    }

    private static void hand() {
        DOC.says("The HAND is altered: 10 times its KIND and X, as they were. BAD.");
        EitherPocket p = Check.laid("h0,0;");
        int was = 0;
        for (int kind = 0; kind <= 3; kind++) {
            for (int x = 0; x <= 4; x++) {
                DOC.due("hand(" + kind + ", " + x + ")", p.hand(kind, x), was);
                was = 10 * kind + x;
            }
        }
        DOC.due("hand(3, 4) as it is", p.hand(3, 4), 34);
        int[][] wrong = {{-1, 0}, {4, 0}, {0, -1}, {0, 5}, {3, 5}, {4, 4}, {-1, -1}, {Integer.MIN_VALUE, 0},
            {Integer.MAX_VALUE, 0}, {0, Integer.MIN_VALUE}, {0, Integer.MAX_VALUE}};
        for (int[] w : wrong) {
            DOC.due("hand(" + w[0] + ", " + w[1] + ")", p.hand(w[0], w[1]), BAD);
        }
        counts("behind wrong hands", p, 20, 3, 4, 3, 2, 0, 8);
        EitherPocket same = Check.laid("h1,2;");
        same.hand(1, 2);
        DOC.due("the same hand is an act too", same.count(6), 1);
    }

    private static void undo() {
        DOC.says("UNDONE: how many more can be. NO.");
        EitherPocket p = new EitherPocket();
        DOC.due("undo() of a new object", p.undo(), NO);
        p.seen(1, 1);
        p.keep();
        p.write('b');
        DOC.due("undo(), no act as yet", p.undo(), NO);
        p.reach(0);
        p.reach(7);
        p.putOver(0, 9);
        DOC.due("undo(), refused calls are none", p.undo(), 0);
        DOC.due("undo() again", p.undo(), NO);
        counts("what is no act stays", p, 10, 2, 3, 2, 2, 1, 0, 1, 1);
    }

    private static void keptAtMost() {
        DOC.says("KEPT are MATCHES, the last one, the HAND: 2 at most.");
        EitherPocket p = Check.laid("b5,6;h1,3;l1;e4;");
        p.seen(1, 1);
        p.keep();
        p.reach(0);
        p.buy(1);
        p.hand(3, 0);
        p.seen(2, 2);
        p.write('x');
        DOC.due("back()", p.back(), 0);
        boxes("as kept", p, 5, 6);
        counts("MATCHES, the last one, the HAND alone", p, 11, 1, 3, 4, 1, 2, 0, 0, 17);
    }

    private static void keep() {
        DOC.says("KEPT: how many. FULL.");
        EitherPocket p = new EitherPocket();
        DOC.due("keep() of one", p.keep(), 1);
        DOC.due("keep() of two", p.keep(), 2);
        p.reach(0);
        DOC.due("keep() of a third", p.keep(), FULL);
        DOC.due("count(7)", p.count(7), 2);
        DOC.due("undo(), what can be undone stays", p.undo(), 0);
        p.reach(0);
        p.back();
        boxes("the third is not kept", p, 6, 4);
        p.reach(1);
        DOC.due("keep() behind back()", p.keep(), 2);
        DOC.due("keep() of a third again", p.keep(), FULL);
        p.reach(1);
        p.back();
        boxes("the newer one", p, 6, 3);
        p.back();
        boxes("the older one", p, 6, 4);
    }

    private static void back() {
        DOC.says("As KEPT last: how many are left; nothing is UNDONE then. NO.");
        EitherPocket p = Check.laid("b5,6;h1,3;");
        DOC.due("back() of none", p.back(), NO);
        p.keep();
        p.reach(0);
        p.keep();
        p.reach(1);
        p.hand(2, 0);
        DOC.due("back() of two", p.back(), 1);
        boxes("as kept last", p, 4, 6);
        DOC.due("count(6)", p.count(6), 0);
        DOC.due("undo()", p.undo(), NO);
        DOC.due("back() of one", p.back(), 0);
        boxes("as kept first", p, 5, 6);
        DOC.due("count(4)", p.count(4), 2);
        p.reach(0);
        DOC.due("back() of no more", p.back(), NO);
        DOC.due("count(6), nothing changes", p.count(6), 1);
        boxes("nothing changes", p, 4, 6);
        EitherPocket q = new EitherPocket();
        q.keep();
        q.reach(0);
        q.undo();
        DOC.due("back() behind undo()", q.back(), 0);
    }

    private static void count() {
        DOC.says("How many: 0 MATCHES in both, 1 KIND, 2 X, 3 N, 4 from where the last one was (0, 1; 2: from none), "
            + "5 SEEN, 6 that can be UNDONE, 7 KEPT, 8 letters of THE TEXT. BAD.");
        EitherPocket p = Check.laid("b0,0;h3,4;e9;");
        counts("the fewest", p, 0, 3, 4, 9, 2, 0, 0, 0, 13);
        p.buy(0);
        p.buy(1);
        counts("the most", p, 20, 3, 4, 9, 2, 0, 2, 0, 13);
        p.reach(0);
        DOC.due("count(4), LEFT", p.count(4), 0);
        p.reach(1);
        DOC.due("count(4), RIGHT", p.count(4), 1);
        for (int what : new int[] {-1, 9, 10, -9, Integer.MIN_VALUE, Integer.MAX_VALUE}) {
            DOC.due("count(" + what + ")", p.count(what), BAD);
        }
    }

    private static void manyCalls() {
        DOC.says("An object is used for at most 512 calls after it has been made");
        EitherPocket p = new EitherPocket();
        for (int call = 1; call <= 510; call++) {
            p.buy(0);
        }
        DOC.due("the 511th call", p.reach(0), 9);
        DOC.due("the 512th call", p.undo(), 7);
        EitherPocket texts = new EitherPocket();
        for (int call = 1; call <= 511; call++) {
            texts.write('b');
        }
        DOC.due("the 512th call", texts.wipe(), 200);
    }
}
