import java.util.function.Supplier;
import java.util.function.ToIntFunction;

/** Refused calls and mere questions leave all as it was, down to what can be undone, kept, seen and written. */
public final class RefusedTest {
    private static final Quote DOC = new Quote("RefusedTest");
    private static final int BAD = EitherPocket.BAD, NO = EitherPocket.NO;
    private static final int FULL = EitherPocket.FULL, NONE = EitherPocket.NONE;
    private static final int[] STRANGE = {-1, Integer.MIN_VALUE, Integer.MAX_VALUE, 10000, 1 << 16};

    public static void main(String[] args) {
        DOC.says("BAD: a number is none that is told.");
        badNumbers(RefusedTest::some);
        badNumbers(RefusedTest::full);
        badNumbers(EitherPocket::new);
        DOC.says("NO: not as things stand.");
        notAsThingsStand();
        DOC.says("NONE: there is none.");
        thereIsNone();
        DOC.says("FULL.");
        isFull();
        DOC.says("Of several the first; nothing changes then.");
        theFirst();
        questions(RefusedTest::some);
        questions(RefusedTest::full);
        questions(EitherPocket::new);
        DOC.end();
    }

    /** Something of all: acts, one kept, three seen, letters without a fault. */
    private static EitherPocket some() {
        EitherPocket p = Check.laid("b7,3;h1,3;l1;e2;");
        p.reach(0);
        p.keep();
        p.hand(2, 1);
        p.reach(1);
        p.putOver(0, 2);
        p.seen(4, 2);
        p.seen(3, 1);
        p.seen(2, 0);
        return p;
    }

    /** As much of all as there can be, and letters with a fault. */
    private static EitherPocket full() {
        EitherPocket p = Check.laid("h3,1;e1;");
        for (int i = 0; i < 5; i++) {
            p.reach(i % 2);
            p.keep();
            p.hand(i % 4, i);
            p.buy(i % 2);
        }
        for (int i = 1; i <= 6; i++) {
            p.seen(10 - i, 10);
        }
        Check.type(p, "x".repeat(200));
        return p;
    }

    /** All that can be asked, then all undone, all taken back, the text laid: the deeper state comes to light. */
    private static String drained(EitherPocket p) {
        StringBuilder told = new StringBuilder(shown(p));
        told.append(" fits ").append(p.fits());
        for (int kind = 0; kind <= 3; kind++) {
            told.append(' ').append(p.asLikely(kind, 0)).append(' ').append(p.asLikely(kind, 1));
        }
        for (int i = 0; i < 10; i++) {
            told.append(" undo ").append(p.undo()).append(shown(p));
        }
        for (int i = 0; i < 3; i++) {
            told.append(" back ").append(p.back()).append(shown(p));
        }
        told.append(" lay ").append(p.lay()).append(shown(p));
        return told.toString();
    }

    private static String shown(EitherPocket p) {
        StringBuilder told = new StringBuilder();
        for (int what = 0; what <= 8; what++) {
            told.append(' ').append(p.count(what));
        }
        told.append(" boxes ").append(p.box(0)).append(' ').append(p.box(1));
        told.append(" fault ").append(p.fault()).append(" evenings ").append(p.evenings(5000));
        return told.toString();
    }

    private static void refused(String call, Supplier<EitherPocket> made, int want, ToIntFunction<EitherPocket> asked) {
        EitherPocket p = made.get();
        DOC.due(call, asked.applyAsInt(p), want);
        DOC.dueText("all behind " + call, drained(p), drained(made.get()));
    }

    private static void badNumbers(Supplier<EitherPocket> made) {
        for (int w : STRANGE) {
            refused("write(" + w + ")", made, BAD, p -> p.write(w));
            refused("putOver(0, " + w + ")", made, BAD, p -> p.putOver(0, w));
            refused("hand(0, " + w + ")", made, BAD, p -> p.hand(0, w));
            refused("hand(" + w + ", 0)", made, BAD, p -> p.hand(w, 0));
            refused("left(0, " + w + ")", made, BAD, p -> p.left(0, w));
            refused("soon(1, " + w + ")", made, BAD, p -> p.soon(1, w));
            refused("level(" + w + ")", made, BAD, p -> p.level(w));
            refused("begin(" + w + ", 0, 0)", made, BAD, p -> p.begin(w, 0, 0));
            refused("begin(0, " + w + ", 0)", made, BAD, p -> p.begin(0, w, 0));
            refused("seen(" + w + ", 0)", made, BAD, p -> p.seen(w, 0));
            refused("seen(0, " + w + ")", made, BAD, p -> p.seen(0, w));
            refused("asLikely(" + w + ", 0)", made, BAD, p -> p.asLikely(w, 0));
            refused("evenings(" + w + ")", made, BAD, p -> p.evenings(w));
            refused("better(" + w + ", 0, 0, 0)", made, BAD, p -> p.better(w, 0, 0, 0));
            refused("better(0, 0, 0, " + w + ")", made, BAD, p -> p.better(0, 0, 0, w));
            refused("coat(" + w + ", 1, 0)", made, BAD, p -> p.coat(w, 1, 0));
            refused("coat(0, " + w + ", 0)", made, BAD, p -> p.coat(0, w, 0));
            refused("count(" + w + ")", made, BAD, p -> p.count(w));
            sidesAndEnds(made, w);
        }
        sidesAndEnds(made, 2);
        refused("count(9)", made, BAD, p -> p.count(9));
        refused("putOver(1, 0)", made, BAD, p -> p.putOver(1, 0));
        refused("evenings(0)", made, BAD, p -> p.evenings(0));
        refused("coat(0, 0, 1)", made, BAD, p -> p.coat(0, 0, 1));
    }

    private static void sidesAndEnds(Supplier<EitherPocket> made, int w) {
        refused("box(" + w + ")", made, BAD, p -> p.box(w));
        refused("quarters(" + w + ")", made, BAD, p -> p.quarters(w));
        refused("reach(" + w + ")", made, BAD, p -> p.reach(w));
        refused("putOver(" + w + ", 1)", made, BAD, p -> p.putOver(w, 1));
        refused("buy(" + w + ")", made, BAD, p -> p.buy(w));
        refused("left(" + w + ", 0)", made, BAD, p -> p.left(w, 0));
        refused("mean(" + w + ")", made, BAD, p -> p.mean(w));
        refused("soon(" + w + ", 0)", made, BAD, p -> p.soon(w, 0));
        refused("times(" + w + ")", made, BAD, p -> p.times(w));
        refused("likeliest(" + w + ")", made, BAD, p -> p.likeliest(w));
        refused("worth(" + w + ")", made, BAD, p -> p.worth(w));
        refused("begin(0, 0, " + w + ")", made, BAD, p -> p.begin(0, 0, w));
        refused("over(" + w + ")", made, BAD, p -> p.over(w));
        refused("asLikely(0, " + w + ")", made, BAD, p -> p.asLikely(0, w));
        refused("coat(0, 1, " + w + ")", made, BAD, p -> p.coat(0, 1, w));
    }

    private static EitherPocket faulty() {
        EitherPocket p = some();
        p.write('x');
        return p;
    }

    private static EitherPocket nothingToUndo() {
        EitherPocket p = some();
        p.back();
        return p;
    }

    private static void notAsThingsStand() {
        refused("lay() with a fault", RefusedTest::faulty, NO, EitherPocket::lay);
        refused("lay() with a fault, full", RefusedTest::full, NO, EitherPocket::lay);
        refused("putOver(1, 10)", RefusedTest::some, NO, p -> p.putOver(1, 10));
        refused("undo() of none", RefusedTest::nothingToUndo, NO, EitherPocket::undo);
        refused("undo() of a new object", EitherPocket::new, NO, EitherPocket::undo);
        refused("back() of none", RefusedTest::nothingToUndo, NO, EitherPocket::back);
        refused("back() of a new object", EitherPocket::new, NO, EitherPocket::back);
    }

    private static EitherPocket notPossible() {
        EitherPocket p = some();
        p.seen(10, 10);
        return p;
    }

    private static void thereIsNone() {
        refused("fault() of none", RefusedTest::some, NONE, EitherPocket::fault);
        for (int kind = 0; kind <= 3; kind++) {
            int asked = kind;
            refused("asLikely(" + kind + ", 0)", RefusedTest::notPossible, NONE, p -> p.asLikely(asked, 0));
            refused("asLikely(" + kind + ", 1)", RefusedTest::notPossible, NONE, p -> p.asLikely(asked, 1));
        }
    }

    private static void isFull() {
        refused("write('b')", RefusedTest::full, FULL, p -> p.write('b'));
        refused("putOver(0, 10)", RefusedTest::full, FULL, p -> p.putOver(0, 10));
        refused("putOver(1, 8)", RefusedTest::full, FULL, p -> p.putOver(1, 8));
        refused("worth(0)", RefusedTest::full, FULL, p -> p.worth(0));
        refused("seen(0, 0)", RefusedTest::full, FULL, p -> p.seen(0, 0));
        refused("keep()", RefusedTest::full, FULL, EitherPocket::keep);
    }

    private static void theFirst() {
        refused("write(127), BAD and FULL", RefusedTest::full, BAD, p -> p.write(127));
        refused("seen(11, 0), BAD and FULL", RefusedTest::full, BAD, p -> p.seen(11, 0));
        refused("putOver(0, 11), BAD, NO and FULL", RefusedTest::full, BAD, p -> p.putOver(0, 11));
        refused("putOver(2, 10), BAD", RefusedTest::full, BAD, p -> p.putOver(2, 10));
        refused("putOver(0, 10), NO and FULL", () -> Check.laid("b9,10;"), NO, p -> p.putOver(0, 10));
        refused("worth(2), BAD", RefusedTest::full, BAD, p -> p.worth(2));
        refused("asLikely(0, 2), BAD and NONE", RefusedTest::notPossible, BAD, p -> p.asLikely(0, 2));
        refused("asLikely(4, 0), BAD and NONE", RefusedTest::notPossible, BAD, p -> p.asLikely(4, 0));
    }

    /** Each question behind the others answers as it does on an object of its own. */
    private static void questions(Supplier<EitherPocket> made) {
        EitherPocket all = made.get();
        for (int part = 0; part <= 1; part++) {
            int one = part;
            same("box", made, all, p -> p.box(one));
            same("quarters", made, all, p -> p.quarters(one));
            same("left", made, all, p -> p.left(one, 3));
            same("mean", made, all, p -> p.mean(one));
            same("soon", made, all, p -> p.soon(one, 9));
            same("times", made, all, p -> p.times(one));
            same("likeliest", made, all, p -> p.likeliest(one));
            same("worth", made, all, p -> p.worth(one));
            same("begin", made, all, p -> p.begin(13, 9, one));
            same("over", made, all, p -> p.over(one));
            same("asLikely", made, all, p -> p.asLikely(one, one));
            same("coat", made, all, p -> p.coat(4321, 60, one));
        }
        same("level", made, all, p -> p.level(6));
        same("fits", made, all, EitherPocket::fits);
        same("evenings", made, all, p -> p.evenings(1));
        same("which", made, all, EitherPocket::which);
        same("better", made, all, p -> p.better(0, 1, 3, 4));
        same("fault", made, all, EitherPocket::fault);
        same("count", made, all, p -> p.count(0));
        DOC.dueText("all behind all questions", drained(all), drained(made.get()));
    }

    private static void same(String call, Supplier<EitherPocket> made, EitherPocket all,
            ToIntFunction<EitherPocket> asked) {
        EitherPocket own = made.get();
        int want = asked.applyAsInt(own);
        DOC.due(call + " behind others", asked.applyAsInt(all), want);
        DOC.due(call + " again", asked.applyAsInt(own), want);
        DOC.dueText("all behind " + call, drained(own), drained(made.get()));
    }
}
