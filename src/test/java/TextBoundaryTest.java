/** The boundary cases of part 1 of the document and of promises 1 to 5: the text. */
public final class TextBoundaryTest {
    private static final Quote DOC = new Quote("TextBoundaryTest");
    private static final int BAD = EitherPocket.BAD, NO = EitherPocket.NO;
    private static final int FULL = EitherPocket.FULL, NONE = EitherPocket.NONE;

    public static void main(String[] args) {
        lettersAtMost();
        itemsBehindOneAnother();
        figures();
        partedByCommas();
        endedBySemicolon();
        boxes();
        hands();
        lastOne();
        evening();
        firstFault();
        laidAtFirst();
        laidOrNot();
        write();
        wipe();
        lay();
        DOC.end();
    }

    private static EitherPocket written(String letters) {
        EitherPocket p = new EitherPocket();
        Check.type(p, letters);
        return p;
    }

    private static void faultOf(String letters, int want) {
        DOC.due("fault() of [" + letters + "]", written(letters).fault(), want);
    }

    /** Not so alone, behind an item that is so, and ahead of one. */
    private static void notSo(String... items) {
        for (String item : items) {
            faultOf(item, 0);
            faultOf("e1;" + item, 3);
            faultOf(item + "b1,1;", 0);
        }
    }

    private static void isSo(String... items) {
        for (String item : items) {
            faultOf(item, NONE);
            faultOf("e1;" + item, NONE);
            faultOf(item + "b1,1;", NONE);
        }
    }

    private static void counts(String when, EitherPocket p, int... want) {
        for (int what = 0; what < want.length; what++) {
            DOC.due(when + ", count(" + what + ")", p.count(what), want[what]);
        }
    }

    private static void lettersAtMost() {
        DOC.says("A TEXT is letters (200 at most)");
        EitherPocket p = written("b1,1;".repeat(39) + "b2,3");
        DOC.due("the 200th letter", p.write(';'), 200);
        DOC.due("the 201st letter", p.write(';'), FULL);
        DOC.due("count(8)", p.count(8), 200);
        DOC.due("fault() of 200 letters", p.fault(), NONE);
        DOC.due("lay() of 200 letters", p.lay(), 5);
        DOC.due("the last of 200 letters is read", p.box(1), 3);
        DOC.due("still 200 letters behind lay()", p.write('e'), FULL);
        DOC.due("wipe()", p.wipe(), 200);
        DOC.due("a letter behind wipe()", p.write('e'), 1);
        EitherPocket cut = written("b1,1;".repeat(39) + "b2,3,");
        DOC.due("the ; would be the 201st letter", cut.write(';'), FULL);
        DOC.due("fault() without it", cut.fault(), 195);
    }

    private static void itemsBehindOneAnother() {
        DOC.says("ITEMS one behind the other");
        faultOf("", NONE);
        faultOf("b1,1;h1,1;l1;e1;", NONE);
        faultOf("e1;l1;h1,1;b1,1;", NONE);
        faultOf("e1;e1;e1;e1;e1;", NONE);
        faultOf("e1; l1;", 3);
        faultOf("e1;,l1;", 3);
        faultOf("e1;;l1;", 3);
        faultOf("e1; ", 3);
        faultOf(" e1;", 0);
        faultOf(" ", 0);
    }

    private static void figures() {
        DOC.says("each a letter, then numbers (one or two figures)");
        isSo("b0,9;", "b00,09;", "b10,05;", "h1,2;", "h01,02;", "l1;", "l01;", "e5;", "e05;");
        notSo("b,1;", "b1,;", "b,;", "b001,1;", "b1,001;", "b010,1;", "b1,010;", "h,1;", "h1,;", "h001,1;",
            "h1,001;", "l;", "l001;", "e;", "e005;");
        notSo("B1,1;", "H1,1;", "L1;", "E1;", "a1;", "c1,1;", "bb1,1;", "11,1;", ";", ",", "~1;", "+1;");
        notSo("b-1,1;", "b+1,1;", "b 1,1;", "b1 ,1;", "b1, 1;", "bx,1;", "b1x,1;", "b/,1;", "b:,1;", "e/;", "e:;",
            "e1/;", "e1:;");
    }

    private static void partedByCommas() {
        DOC.says("parted by , and a ; behind the last one");
        notSo("b1;", "b1;1;", "b1.1;", "b1 1;", "b1,,1;", "b,1,1;", "b1,1,1;", "h1;", "h1,1,1;", "h1;1;",
            "l1,1;", "l,1;", "e1,1;", "e,1;");
    }

    private static void endedBySemicolon() {
        DOC.says("a ; behind the last one");
        String[] open = {"b1,1", "b10,10", "h1,1", "l1", "e1", "b1,1,", "e1,", "b1,", "b1", "b", "h", "l", "e"};
        for (String item : open) {
            faultOf(item, 0);
            faultOf("b1,1;" + item, 5);
            faultOf(item + "e1;", 0);
        }
        notSo("b1,1:", "e1.", "l1 ;");
    }

    private static void boxes() {
        DOC.says("bL,R there are L (0 to 10) MATCHES in the LEFT box, R (0 to 10) in the RIGHT one");
        isSo("b0,0;", "b0,10;", "b10,0;", "b10,10;", "b1,9;");
        notSo("b11,0;", "b0,11;", "b11,11;", "b99,0;", "b0,99;", "b20,0;");
        DOC.due("box(0) of b0,10;", Check.laid("b0,10;").box(0), 0);
        DOC.due("box(1) of b0,10;", Check.laid("b0,10;").box(1), 10);
        DOC.due("box(0) of b10,0;", Check.laid("b10,0;").box(0), 10);
        DOC.due("box(1) of b10,0;", Check.laid("b10,0;").box(1), 0);
        DOC.due("box(0) of b08,03;", Check.laid("b08,03;").box(0), 8);
        DOC.says("(10, 10 without; the last one) hK,X");
        DOC.due("box(0) without", Check.laid("h1,1;l0;e1;").box(0), 10);
        DOC.due("box(1) without", Check.laid("h1,1;l0;e1;").box(1), 10);
        DOC.due("box(0) of two", Check.laid("b1,2;e1;b3,4;").box(0), 3);
        DOC.due("box(1) of two", Check.laid("b1,2;e1;b3,4;").box(1), 4);
    }

    private static void hands() {
        DOC.says("the HAND is of KIND K (0 STEADY, 1 WONTED, 2 RATTLING, 3 SPARING), X (0 to 4) QUARTERS");
        for (int kind = 0; kind <= 3; kind++) {
            for (int x = 0; x <= 4; x++) {
                String item = "h" + kind + "," + x + ";";
                isSo(item);
                DOC.due("count(1) of " + item, Check.laid(item).count(1), kind);
                DOC.due("count(2) of " + item, Check.laid(item).count(2), x);
            }
        }
        notSo("h4,0;", "h9,0;", "h10,0;", "h99,0;", "h0,5;", "h0,9;", "h0,10;", "h3,5;", "h4,4;");
        DOC.says("X (0 to 4) QUARTERS (0, 2 without; the last one)");
        DOC.due("count(1) without", Check.laid("b1,1;l0;e1;").count(1), 0);
        DOC.due("count(2) without", Check.laid("b1,1;l0;e1;").count(2), 2);
        DOC.due("count(1) of two", Check.laid("h1,4;b1,1;h2,3;").count(1), 2);
        DOC.due("count(2) of two", Check.laid("h1,4;b1,1;h2,3;").count(2), 3);
    }

    private static void lastOne() {
        DOC.says("lS the last one was taken from the LEFT (S 0), the RIGHT (1) box");
        isSo("l0;", "l1;", "l00;");
        notSo("l2;", "l9;", "l10;", "l11;");
        DOC.due("count(4) of l0;", Check.laid("l0;").count(4), 0);
        DOC.due("count(4) of l1;", Check.laid("l1;").count(4), 1);
        DOC.says("(from none without; the last one)");
        DOC.due("count(4) without", Check.laid("b1,1;h1,1;e1;").count(4), 2);
        DOC.due("count(4) of two", Check.laid("l1;e1;l0;").count(4), 0);
        DOC.due("count(4) of two", Check.laid("l0;e1;l1;").count(4), 1);
    }

    private static void evening() {
        DOC.says("eN an EVENING takes N (1 to 9) MATCHES");
        for (int n = 1; n <= 9; n++) {
            isSo("e" + n + ";", "e0" + n + ";");
            DOC.due("count(3) of e" + n + ";", Check.laid("e" + n + ";").count(3), n);
        }
        notSo("e0;", "e00;", "e10;", "e11;", "e99;");
        DOC.says("MATCHES (3 without; the last one)");
        DOC.due("count(3) without", Check.laid("b1,1;h1,1;l0;").count(3), 3);
        DOC.due("count(3) of two", Check.laid("e9;l0;e4;").count(3), 4);
    }

    private static void firstFault() {
        DOC.says("FAULT: the place of the first letter of the first ITEM that is not so.");
        faultOf("x", 0);
        faultOf("e0;", 0);
        faultOf("e1;e0;", 3);
        faultOf("e1;e0;e0;", 3);
        faultOf("e0;e1;x", 0);
        faultOf("b10,10;b10,11;", 7);
        faultOf("b10,10;h1,1;l0;e3;l2;", 18);
        faultOf("e1;".repeat(66) + "e1", 198);
        faultOf("e1;".repeat(66) + "~;", 198);
        faultOf("l".repeat(200), 0);
        DOC.says("FAULT. NONE.");
        faultOf("b0,0;h0,0;l0;e1;", NONE);
        EitherPocket figure = written("b1,10;");
        figure.wipe();
        Check.type(figure, "b1,1");
        DOC.due("fault(), a figure wiped behind the last letter doesn't count", figure.fault(), 0);
        EitherPocket p = written("b1,1;");
        p.wipe();
        Check.type(p, "b1,1");
        DOC.due("fault(), a ; wiped behind the last letter doesn't count", p.fault(), 0);
        p.write(';');
        DOC.due("fault(), mended", p.fault(), NONE);
        DOC.due("fault() again", p.fault(), NONE);
        p.write('b');
        DOC.due("fault(), one more letter", p.fault(), 5);
    }

    private static void laidAtFirst() {
        DOC.says("LAID is a TEXT without FAULT (NO else; at first b6,4;h2,3;e2;).");
        EitherPocket p = new EitherPocket();
        counts("at first", p, 10, 2, 3, 2, 2, 0, 0, 0, 0);
        DOC.due("box(0)", p.box(0), 6);
        DOC.due("box(1)", p.box(1), 4);
        DOC.due("THE TEXT itself is empty, fault()", p.fault(), NONE);
        DOC.due("wipe()", p.wipe(), 0);
        EitherPocket q = Check.laid("b6,4;h2,3;e2;");
        for (int y = 1; y < 10000; y += 101) {
            DOC.due("evenings(" + y + ")", p.evenings(y), q.evenings(y));
        }
        DOC.due("times(0)", p.times(0), q.times(0));
        DOC.due("which()", p.which(), q.which());
        DOC.due("undo()", p.undo(), NO);
        DOC.due("back()", p.back(), NO);
        DOC.due("forget()", p.forget(), 0);
        p.reach(0);
        p.write('b');
        DOC.due("another object is not changed", new EitherPocket().count(0), 10);
        DOC.due("nor its text", new EitherPocket().count(8), 0);
    }

    private static void laidOrNot() {
        DOC.says("LAID is a TEXT without FAULT (NO else;");
        String[] faults = {"b1,1", "e0;", "b1,1;h4,0;", "b1,1;l1;e9;x", "b1,1; "};
        for (String letters : faults) {
            EitherPocket p = written(letters);
            DOC.due("lay() of [" + letters + "]", p.lay(), NO);
            counts("as before", p, 10, 2, 3, 2, 2, 0, 0, 0, letters.length());
            DOC.due("box(0) as before", p.box(0), 6);
        }
    }

    private static void write() {
        DOC.says("A letter (32 to 126, as in ASCII) comes behind THE TEXT: how long it is. BAD; FULL.");
        EitherPocket p = new EitherPocket();
        int[] wrong = {31, 127, 0, -1, 10, 128, 160, 255, 32 + 256, 98 + 65536, 98 - 65536, Integer.MIN_VALUE,
            Integer.MAX_VALUE};
        for (int letter : wrong) {
            DOC.due("write(" + letter + ")", p.write(letter), BAD);
        }
        DOC.due("count(8)", p.count(8), 0);
        DOC.due("write(32)", p.write(32), 1);
        DOC.due("write(126)", p.write(126), 2);
        for (int length = 3; length <= 200; length++) {
            DOC.due("write(98)", p.write(98), length);
        }
        DOC.due("write(32) of the 201st", p.write(32), FULL);
        for (int letter : wrong) {
            DOC.due("write(" + letter + ") of the 201st", p.write(letter), BAD);
        }
        DOC.due("count(8)", p.count(8), 200);
    }

    private static void wipe() {
        DOC.says("THE TEXT is empty: how long it was.");
        EitherPocket p = new EitherPocket();
        DOC.due("wipe() of none", p.wipe(), 0);
        p.write('x');
        DOC.due("wipe() of one", p.wipe(), 1);
        DOC.due("wipe() again", p.wipe(), 0);
        Check.type(p, "x".repeat(200));
        DOC.due("wipe() of 200", p.wipe(), 200);
        DOC.due("count(8)", p.count(8), 0);
        DOC.due("fault()", p.fault(), NONE);
        counts("what is laid stays", p, 10, 2, 3, 2, 2, 0, 0, 0, 0);
        DOC.due("lay() of no letters", p.lay(), 20);
    }

    private static void lay() {
        DOC.says("LAID: how many MATCHES; nothing SEEN, UNDONE, KEPT. NO.");
        DOC.due("lay() of the fewest", written("b0,0;").lay(), 0);
        DOC.due("lay() of the most", written("b10,10;").lay(), 20);
        EitherPocket p = written("b2,9;h3,1;l0;e7;");
        for (int i = 0; i < 9; i++) {
            p.reach(i % 2);
            p.seen(i, i);
            p.keep();
        }
        counts("before", p, 1, 2, 3, 2, 0, 6, 8, 2, 16);
        DOC.due("lay()", p.lay(), 11);
        counts("laid", p, 11, 3, 1, 7, 0, 0, 0, 0, 16);
        DOC.due("undo()", p.undo(), NO);
        DOC.due("back()", p.back(), NO);
        DOC.due("forget()", p.forget(), 0);
        DOC.due("lay() again", p.lay(), 11);
        p.reach(1);
        p.seen(1, 1);
        p.keep();
        p.write('x');
        DOC.due("lay() with a fault", p.lay(), NO);
        counts("nothing is laid", p, 10, 3, 1, 7, 1, 1, 1, 1, 17);
        p.wipe();
        DOC.due("lay() of no letters", p.lay(), 20);
        counts("without all", p, 20, 0, 2, 3, 2, 0, 0, 0, 0);
    }
}
