/**
 * Two boxes of matches, one in either pocket, and a hand that reaches to one or the other
 * until a box is found empty. Every chance is kept as a whole number of parts of 4 to the 21st,
 * so that all comparisons are exact and all answers are cut from the exact value.
 */
public final class EitherPocket {
    public static final int BAD = -1, NO = -2, FULL = -3, NONE = -4;

    private static final int ANSWER_FOUND_EMPTY = -5;
    private static final int LEFT = 0, RIGHT = 1, NOWHERE = 2;
    private static final int STEADY = 0, WONTED = 1, RATTLING = 2, SPARING = 3;
    private static final int END_FOUND_EMPTY = 0, END_EMPTIED = 1;
    private static final int FULL_BOX = 10;
    private static final int MOST_MATCHES = 20;
    /** Twenty matches can be taken; the reach behind the last one finds a box empty. */
    private static final int MOST_REACHES = 21;
    private static final int ALL_QUARTERS = 4;
    private static final int MOST_LETTERS = 200;
    private static final int MOST_OF_AN_EVENING = 9;
    private static final int MOST_SEEN = 6;
    private static final int MOST_UNDONE = 8;
    private static final int MOST_KEPT = 2;
    private static final int MOST_EVENINGS = 7;
    private static final int MOST_COAT_REACHES = 60;
    private static final int TEN_THOUSAND = 10000;

    private final Text text = new Text();
    private final Coat now = new Coat();
    private final Coat trial = new Coat();
    private final Pile acts = new Pile(MOST_UNDONE);
    private final Pile kept = new Pile(MOST_KEPT);
    private final Walk walk = new Walk();
    private final int[] seenLeft = new int[MOST_SEEN];
    private final int[] seenRight = new int[MOST_SEEN];
    private int seenCount = 0;
    private int evening = 2;

    public EitherPocket() {
        now.setBoxes(6, 4);
        now.setHand(RATTLING, 3);
        now.last = NOWHERE;
    }

    // ---- coats

    public int write(int letter) {
        if (!within(letter, 32, 126)) {
            return BAD;
        }
        return text.append((char) letter) ? text.size() : FULL;
    }

    public int wipe() {
        int was = text.size();
        text.clear();
        return was;
    }

    public int fault() {
        return text.firstFault();
    }

    public int lay() {
        if (text.firstFault() != NONE) {
            return NO;
        }
        now.copyFrom(text.told);
        evening = text.toldEvening;
        seenCount = 0;
        acts.clear();
        kept.clear();
        return now.matches();
    }

    public int box(int side) {
        return isSide(side) ? now.inBox(side) : BAD;
    }

    public int quarters(int side) {
        if (!isSide(side)) {
            return BAD;
        }
        int toLeft = now.quartersToLeft();
        return side == LEFT ? toLeft : ALL_QUARTERS - toLeft;
    }

    // ---- acts

    public int reach(int side) {
        if (!isSide(side)) {
            return BAD;
        }
        acts.put(now);
        return now.draw(side) ? now.inBox(side) : ANSWER_FOUND_EMPTY;
    }

    public int putOver(int side, int k) {
        if (!isSide(side) || !within(k, 1, FULL_BOX)) {
            return BAD;
        }
        int from = now.inBox(side);
        int to = now.inBox(otherSide(side));
        if (from < k) {
            return NO;
        }
        if (to + k > FULL_BOX) {
            return FULL;
        }
        acts.put(now);
        now.setBox(side, from - k);
        now.setBox(otherSide(side), to + k);
        return from - k;
    }

    public int buy(int side) {
        if (!isSide(side)) {
            return BAD;
        }
        int were = now.inBox(side);
        acts.put(now);
        now.setBox(side, FULL_BOX);
        return were;
    }

    public int hand(int kind, int x) {
        if (!isHand(kind, x)) {
            return BAD;
        }
        int was = 10 * now.kind + now.x;
        acts.put(now);
        now.setHand(kind, x);
        return was;
    }

    public int undo() {
        return acts.takeLast(now) ? acts.size() : NO;
    }

    // ---- how likely

    public int left(int end, int k) {
        if (!isEnd(end) || !within(k, 0, FULL_BOX)) {
            return BAD;
        }
        walkToEnd(end);
        return tenThousandths(walk.chanceOfOther(k));
    }

    public int mean(int end) {
        if (!isEnd(end)) {
            return BAD;
        }
        walkToEnd(end);
        long sum = 0;
        for (int k = 0; k <= FULL_BOX; k++) {
            sum += k * walk.chanceOfOther(k);
        }
        return hundredfold(sum);
    }

    public int soon(int end, int n) {
        if (!isEnd(end) || !within(n, 0, MOST_REACHES)) {
            return BAD;
        }
        startFrom(now.left, now.right, end);
        walk.advance(n);
        return tenThousandths(Walk.WHOLE - walk.standing());
    }

    public int times(int end) {
        return isEnd(end) ? hundredfold(walkToEnd(end)) : BAD;
    }

    public int likeliest(int end) {
        if (!isEnd(end)) {
            return BAD;
        }
        walkToEnd(end);
        int best = 0;
        for (int k = 1; k <= FULL_BOX; k++) {
            if (walk.chanceOfOther(k) > walk.chanceOfOther(best)) {
                best = k;
            }
        }
        return best;
    }

    public int level(int n) {
        if (!within(n, 0, MOST_MATCHES)) {
            return BAD;
        }
        startFrom(now.left, now.right, END_FOUND_EMPTY);
        walk.advance(n);
        return tenThousandths(walk.chanceOfLevel());
    }

    public int worth(int side) {
        if (!isSide(side)) {
            return BAD;
        }
        if (now.inBox(side) >= FULL_BOX) {
            return FULL;
        }
        long asItIs = reachesWith(now.left, now.right);
        long withOneMore = side == LEFT
                ? reachesWith(now.left + 1, now.right)
                : reachesWith(now.left, now.right + 1);
        return hundredfold(withOneMore - asItIs) + TEN_THOUSAND;
    }

    public int begin(int t, int n, int what) {
        if (!within(t, 0, MOST_MATCHES) || !within(n, 0, MOST_REACHES) || !isPart(what)) {
            return BAD;
        }
        int best = 0;
        long bestChance = -1;
        for (int inLeft = 0; inLeft <= FULL_BOX; inLeft++) {
            if (!within(t - inLeft, 0, FULL_BOX)) {
                continue;
            }
            startFrom(inLeft, t - inLeft, END_FOUND_EMPTY);
            walk.advance(n);
            if (walk.standing() > bestChance) {
                best = inLeft;
                bestChance = walk.standing();
            }
        }
        return what == 0 ? best : tenThousandths(bestChance);
    }

    public int over(int what) {
        if (!isPart(what)) {
            return BAD;
        }
        int best = 0;
        long most = reachesWith(now.left, now.right);
        for (int k = 1; k <= FULL_BOX; k++) {
            long fromLeft = reachesWith(now.left - k, now.right + k);
            if (fromLeft > most) {
                best = k;
                most = fromLeft;
            }
            long fromRight = reachesWith(now.left + k, now.right - k);
            if (fromRight > most) {
                best = -k;
                most = fromRight;
            }
        }
        return what == 0 ? best + 10 : hundredfold(most);
    }

    // ---- what was seen

    public int seen(int l, int r) {
        if (!within(l, 0, FULL_BOX) || !within(r, 0, FULL_BOX)) {
            return BAD;
        }
        if (!within(seenCount, 0, MOST_SEEN - 1)) {
            return FULL;
        }
        seenLeft[seenCount] = l;
        seenRight[seenCount] = r;
        seenCount++;
        return seenCount;
    }

    public int forget() {
        int were = seenCount;
        seenCount = 0;
        return were;
    }

    public int fits() {
        int bits = 0;
        for (int kind = STEADY; kind <= SPARING; kind++) {
            if (likeliestQuarters(kind) >= 0) {
                bits |= 1 << kind;
            }
        }
        return bits;
    }

    public int asLikely(int kind, int what) {
        if (!isKind(kind) || !isPart(what)) {
            return BAD;
        }
        int best = likeliestQuarters(kind);
        if (best < 0) {
            return NONE;
        }
        return what == 0 ? best : tenThousandths(chanceOfSeen(kind, best));
    }

    public int evenings(int y) {
        if (!within(y, 1, TEN_THOUSAND - 1)) {
            return BAD;
        }
        startFrom(now.left, now.right, END_FOUND_EMPTY);
        int enough = 0;
        for (int many = 1; many <= MOST_EVENINGS; many++) {
            walk.advance(evening);
            if (walk.standing() * TEN_THOUSAND > y * Walk.WHOLE) {
                enough = many;
            }
        }
        return enough;
    }

    public int which() {
        walkToEnd(END_FOUND_EMPTY);
        return tenThousandths(walk.chanceOfLeftFirst());
    }

    public int better(int kind, int x, int other, int y) {
        if (!isHand(kind, x) || !isHand(other, y)) {
            return BAD;
        }
        long one = reachesByHand(kind, x);
        long two = reachesByHand(other, y);
        if (one == two) {
            return 0;
        }
        return one > two ? 1 : 2;
    }

    public int coat(int z, int n, int what) {
        if (!within(z, 0, TEN_THOUSAND - 1) || !within(n, 1, MOST_COAT_REACHES) || !isPart(what)) {
            return BAD;
        }
        trial.copyFrom(now);
        int bought = 0;
        for (int time = 0; time < n; time++) {
            int side = drawOf(z, time) % 4 < trial.quartersToLeft() ? LEFT : RIGHT;
            if (!trial.draw(side)) {
                trial.setBox(side, FULL_BOX);
                bought++;
            }
        }
        return what == 0 ? bought : trial.matches();
    }

    // ---- kept

    public int keep() {
        if (kept.isFull()) {
            return FULL;
        }
        kept.put(now);
        return kept.size();
    }

    public int back() {
        if (!kept.takeLast(now)) {
            return NO;
        }
        acts.clear();
        return kept.size();
    }

    public int count(int what) {
        switch (what) {
            case 0: return now.matches();
            case 1: return now.kind;
            case 2: return now.x;
            case 3: return evening;
            case 4: return now.last;
            case 5: return seenCount;
            case 6: return acts.size();
            case 7: return kept.size();
            case 8: return text.size();
            default: return BAD;
        }
    }

    private void startFrom(int inLeft, int inRight, int end) {
        trial.copyFrom(now);
        trial.setBoxes(inLeft, inRight);
        walk.start(trial, end);
    }

    private long walkToEnd(int end) {
        startFrom(now.left, now.right, end);
        return walk.reachesTillEnd();
    }

    /** -1, less than any mean, where the boxes can't hold so many. */
    private long reachesWith(int inLeft, int inRight) {
        if (!within(inLeft, 0, FULL_BOX) || !within(inRight, 0, FULL_BOX)) {
            return -1;
        }
        startFrom(inLeft, inRight, END_FOUND_EMPTY);
        return walk.reachesTillEnd();
    }

    private void startByHand(int kind, int x) {
        trial.copyFrom(now);
        trial.setHand(kind, x);
        walk.start(trial, END_FOUND_EMPTY);
    }

    private long reachesByHand(int kind, int x) {
        startByHand(kind, x);
        return walk.reachesTillEnd();
    }

    /** -1, if what was seen is possible by none. */
    private int likeliestQuarters(int kind) {
        int best = -1;
        long bestChance = 0;
        for (int x = 0; x <= ALL_QUARTERS; x++) {
            long chance = chanceOfSeen(kind, x);
            if (chance > bestChance) {
                best = x;
                bestChance = chance;
            }
        }
        return best;
    }

    private long chanceOfSeen(int kind, int x) {
        startByHand(kind, x);
        for (int i = 0; i < seenCount && i < MOST_SEEN && walk.standing() > 0; i++) {
            walk.advance(evening);
            walk.keepOnly(seenLeft[i], seenRight[i]);
        }
        return walk.standing();
    }

    private static int drawOf(int z, int time) {
        long x = 7919L * z + 6151L * time + 1;
        return (int) (x * x % 65521 / 8);
    }

    private static int tenThousandths(long chance) {
        return (int) (chance * TEN_THOUSAND / Walk.WHOLE);
    }

    /** By division, not by a shift: a number below 0 is to be cut toward 0. */
    private static int hundredfold(long mean) {
        return (int) (mean * 100 / Walk.WHOLE);
    }

    private static int handToLeft(int kind, int x, int inLeft, int inRight, int last) {
        switch (kind) {
            case WONTED: return leaning(x, last == LEFT, last == RIGHT);
            case RATTLING: return leaning(x, inLeft > inRight, inLeft < inRight);
            case SPARING: return leaning(x, inLeft < inRight, inLeft > inRight);
            default: return x;
        }
    }

    private static int leaning(int x, boolean toIt, boolean fromIt) {
        if (toIt) {
            return x;
        }
        return fromIt ? ALL_QUARTERS - x : 2;
    }

    private static int otherSide(int side) {
        return side == LEFT ? RIGHT : LEFT;
    }

    private static boolean within(int value, int least, int most) {
        return value >= least && value <= most;
    }

    private static boolean isSide(int side) {
        return within(side, LEFT, RIGHT);
    }

    private static boolean isEnd(int end) {
        return within(end, END_FOUND_EMPTY, END_EMPTIED);
    }

    private static boolean isPart(int what) {
        return within(what, 0, 1);
    }

    private static boolean isKind(int kind) {
        return within(kind, STEADY, SPARING);
    }

    private static boolean isHand(int kind, int x) {
        return isKind(kind) && within(x, 0, ALL_QUARTERS);
    }

    /** All that acts change: the matches, where the last time was, the hand. */
    private static final class Coat {
        int left;
        int right;
        int last;
        int kind;
        int x;

        void copyFrom(Coat other) {
            left = other.left;
            right = other.right;
            last = other.last;
            kind = other.kind;
            x = other.x;
        }

        void setBoxes(int inLeft, int inRight) {
            left = inLeft;
            right = inRight;
        }

        void setBox(int side, int matches) {
            if (side == LEFT) {
                left = matches;
            } else {
                right = matches;
            }
        }

        void setHand(int newKind, int newX) {
            kind = newKind;
            x = newX;
        }

        int inBox(int side) {
            return side == LEFT ? left : right;
        }

        int matches() {
            return left + right;
        }

        int quartersToLeft() {
            return handToLeft(kind, x, left, right, last);
        }

        /** False, if the box is found empty; that is the last time all the same. */
        boolean draw(int side) {
            last = side;
            int were = inBox(side);
            if (were == 0) {
                return false;
            }
            setBox(side, were - 1);
            return true;
        }
    }

    /** Coats laid by, the last one on top; its coats are made once and used again. */
    private static final class Pile {
        private final Coat[] coats;
        private int size = 0;

        Pile(int most) {
            coats = new Coat[Math.max(most, 1)];
            for (int i = 0; i < coats.length; i++) {
                coats[i] = new Coat();
            }
        }

        int size() {
            return size;
        }

        boolean isFull() {
            return size >= coats.length;
        }

        void clear() {
            size = 0;
        }

        void put(Coat coat) {
            if (isFull()) {
                dropOldest();
            }
            if (within(size, 0, coats.length - 1)) {
                coats[size].copyFrom(coat);
                size++;
            }
        }

        boolean takeLast(Coat into) {
            if (!within(size, 1, coats.length)) {
                return false;
            }
            size--;
            into.copyFrom(coats[size]);
            return true;
        }

        private void dropOldest() {
            for (int i = 1; i < coats.length; i++) {
                coats[i - 1].copyFrom(coats[i]);
            }
            size = coats.length - 1;
        }
    }

    /** The letters written, and what they told when they were last read. */
    private static final class Text {
        private final char[] letters = new char[MOST_LETTERS];
        private int length = 0;
        private int place = 0;
        private int first = 0;
        private int second = 0;
        final Coat told = new Coat();
        int toldEvening = 0;

        int size() {
            return length;
        }

        void clear() {
            length = 0;
        }

        boolean append(char letter) {
            if (!within(length, 0, MOST_LETTERS - 1)) {
                return false;
            }
            letters[length] = letter;
            length++;
            return true;
        }

        int firstFault() {
            told.setBoxes(10, 10);
            told.setHand(STEADY, 2);
            told.last = NOWHERE;
            toldEvening = 3;
            place = 0;
            for (int items = 0; items < MOST_LETTERS && place < length; items++) {
                int start = place;
                if (!readItem()) {
                    return start;
                }
            }
            return NONE;
        }

        private boolean readItem() {
            char letter = letterHere();
            place++;
            switch (letter) {
                case 'b': return readTwo() && tellBoxes();
                case 'h': return readTwo() && tellHand();
                case 'l': return readOne() && tellLast();
                case 'e': return readOne() && tellEvening();
                default: return false;
            }
        }

        private boolean tellBoxes() {
            told.setBoxes(first, second);
            return within(first, 0, FULL_BOX) && within(second, 0, FULL_BOX);
        }

        private boolean tellHand() {
            told.setHand(first, second);
            return isHand(first, second);
        }

        private boolean tellLast() {
            told.last = first;
            return isSide(first);
        }

        private boolean tellEvening() {
            toldEvening = first;
            return within(first, 1, MOST_OF_AN_EVENING);
        }

        private boolean readOne() {
            first = readNumber();
            return first >= 0 && readSign(';');
        }

        private boolean readTwo() {
            first = readNumber();
            if (first < 0 || !readSign(',')) {
                return false;
            }
            second = readNumber();
            return second >= 0 && readSign(';');
        }

        /** -1, if there is none; a third figure is left for readSign to refuse. */
        private int readNumber() {
            int number = readFigure();
            if (number < 0) {
                return -1;
            }
            int ones = readFigure();
            return ones < 0 ? number : 10 * number + ones;
        }

        private int readFigure() {
            char letter = letterHere();
            if (letter < '0' || letter > '9') {
                return -1;
            }
            place++;
            return letter - '0';
        }

        private boolean readSign(char sign) {
            if (letterHere() != sign) {
                return false;
            }
            place++;
            return true;
        }

        /** Behind the last letter a sign that no item has. */
        private char letterHere() {
            return place >= 0 && place < length && place < MOST_LETTERS ? letters[place] : ' ';
        }
    }

    /**
     * Follows all that can come about, one reach after the other. As every reach but the ending
     * one takes a match, how many are left in both is known, and a row over the left box and the
     * last side tells the whole state.
     */
    private static final class Walk {
        /** 4 to the 21st: a chance after at most 21 reaches is a whole number of its parts. */
        static final long WHOLE = 1L << (2 * MOST_REACHES);
        private static final int SIDES = 3;

        private long[] row = new long[(FULL_BOX + 1) * SIDES];
        private long[] nextRow = new long[(FULL_BOX + 1) * SIDES];
        private final long[] others = new long[FULL_BOX + 1];
        private int end = 0;
        private int kind = 0;
        private int x = 0;
        private int matches = 0;
        private long stillOn = 0;
        private long endedLeft = 0;

        void start(Coat coat, int toEnd) {
            wipeRow(row);
            wipeRow(others);
            end = toEnd;
            kind = coat.kind;
            x = coat.x;
            matches = coat.matches();
            stillOn = WHOLE;
            endedLeft = 0;
            if (end == END_EMPTIED && coat.left == 0) {
                endBy(LEFT, coat.right, WHOLE);
            } else if (end == END_EMPTIED && coat.right == 0) {
                endBy(RIGHT, coat.left, WHOLE);
            } else {
                addTo(row, coat.left, coat.last, WHOLE);
            }
        }

        void advance(int reaches) {
            for (int i = 0; i < reaches && stillOn > 0; i++) {
                advanceOnce();
            }
        }

        /** The mean of reaches till the end: each reach counts by the chance that it is made. */
        long reachesTillEnd() {
            long sum = 0;
            for (int i = 0; i < MOST_REACHES && stillOn > 0; i++) {
                sum += stillOn;
                advanceOnce();
            }
            return sum;
        }

        /** Of all that can be by now, only so many in the boxes. */
        void keepOnly(int inLeft, int inRight) {
            stillOn = 0;
            for (int left = 0; left <= FULL_BOX; left++) {
                boolean same = left == inLeft && matches - left == inRight;
                for (int last = 0; last < SIDES; last++) {
                    int cell = left * SIDES + last;
                    if (same) {
                        stillOn += row[cell];
                    } else {
                        row[cell] = 0;
                    }
                }
            }
        }

        long standing() {
            return stillOn;
        }

        long chanceOfOther(int k) {
            return within(k, 0, FULL_BOX) ? others[k] : 0;
        }

        long chanceOfLeftFirst() {
            return endedLeft;
        }

        long chanceOfLevel() {
            int half = matches / 2;
            if (half + half != matches || !within(half, 0, FULL_BOX)) {
                return 0;
            }
            long sum = 0;
            for (int last = 0; last < SIDES; last++) {
                sum += row[half * SIDES + last];
            }
            return sum;
        }

        private void advanceOnce() {
            wipeRow(nextRow);
            for (int left = 0; left <= FULL_BOX; left++) {
                for (int last = 0; last < SIDES; last++) {
                    long chance = row[left * SIDES + last];
                    if (chance > 0) {
                        int right = matches - left;
                        int toLeft = handToLeft(kind, x, left, right, last);
                        long quarter = chance / ALL_QUARTERS;
                        follow(LEFT, left, right, quarter * toLeft);
                        follow(RIGHT, right, left, quarter * (ALL_QUARTERS - toLeft));
                    }
                }
            }
            matches--;
            long[] used = row;
            row = nextRow;
            nextRow = used;
        }

        private void follow(int side, int own, int other, long chance) {
            int lastOne = end == END_EMPTIED ? 1 : 0;
            if (own <= lastOne) {
                endBy(side, other, chance);
            } else {
                addTo(nextRow, side == LEFT ? own - 1 : other, side, chance);
            }
        }

        private void endBy(int side, int other, long chance) {
            stillOn -= chance;
            if (side == LEFT) {
                endedLeft += chance;
            }
            if (other >= 0 && other < others.length) {
                others[other] += chance;
            }
        }

        private static void addTo(long[] cells, int left, int last, long chance) {
            int cell = left * SIDES + last;
            if (cell >= 0 && cell < cells.length) {
                cells[cell] += chance;
            }
        }

        private static void wipeRow(long[] cells) {
            for (int i = 0; i < cells.length; i++) {
                cells[i] = 0;
            }
        }
    }
}
