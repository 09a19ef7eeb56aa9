/** Squares of four whole numbers on a shelf, told alike or not; README.md tells how it is built. */
public final class MatrixKin {
    public static final int NONE = -1, UNKNOWN = -1000000001, OUTSIDE = -1000000002, NOT = -1000000003, FULL = -1000000004;

    private static final int BOUND = 1000000;
    private static final int SHELF_ROOM = 12;
    private static final int TEXT_ROOM = 60;
    private static final int BOOK_ROOM = 20;
    private static final int PAST_ROOM = 20;
    private static final int IMAGE_COUNT = 2;
    private static final int HIGHEST_POWER = 20;
    private static final int HIGHEST_LETTER = 255;

    // Two runs more make the trace at least 2.6 times as great, and it is 2000000 at most: 30 runs are never passed.
    private static final int RUNS_ROOM = 40;
    // The loops with this bound halve a number up to 1000000 at least every second step: 40 steps are never passed.
    private static final int HALVINGS = 64;

    private static final int KIND_ONE = 0;
    private static final int KIND_ROUND = 1;
    private static final int KIND_SHIFT = 2;
    private static final int KIND_STRETCH = 3;

    private static final int NO_FAULT = 0;
    private static final int FAULT_LETTER = 1;
    private static final int FAULT_BOUNDS = 2;

    private static final String DRAWN_LETTERS = "RLrlSs";

    private final Shelf shelf = new Shelf();
    private final Past past = new Past();
    private final Text text = new Text();
    private final Book book = new Book();
    private final Judge judge = new Judge();
    private final Image[] images = new Image[IMAGE_COUNT];
    private final Square first = new Square();
    private final Square second = new Square();
    private final Square result = new Square();
    private int seedNow = 0;

    public MatrixKin() {
        for (int i = 0; i < IMAGE_COUNT; i++) {
            images[i] = new Image();
        }
    }

    // ---- the shelf

    public int feed(int letter) {
        if (letter < 0 || letter > HIGHEST_LETTER) {
            return OUTSIDE;
        }
        if (text.isFull()) {
            return FULL;
        }
        text.append(letter);
        return text.length();
    }

    public int write() {
        if (shelf.isFull()) {
            return FULL;
        }
        int faultNumber = text.spell(result);
        text.clear();
        if (faultNumber != NO_FAULT) {
            return -10 - faultNumber;
        }
        return place(result);
    }

    public int fault() {
        return text.faultPlace();
    }

    public int put(int a, int b, int c, int d) {
        result.set(a, b, c, d);
        if (!result.isWithinBounds()) {
            return OUTSIDE;
        }
        if (!result.hasAreaOne()) {
            return NOT;
        }
        if (shelf.isFull()) {
            return FULL;
        }
        return place(result);
    }

    public int told(int what) {
        switch (what) {
            case 0:
                return shelf.size();
            case 1:
                return text.length();
            case 2:
                judge.lookAround(shelf);
                return judge.countFamilies();
            case 3:
                judge.lookAround(shelf);
                return judge.greatestFamily();
            case 4:
                judge.lookAround(shelf);
                return judge.countTwins();
            case 5:
                return book.length();
            case 6:
                judge.lookAround(shelf);
                return firstWrong();
            case 7:
                return past.length();
            default:
                return OUTSIDE;
        }
    }

    private int firstWrong() {
        for (int i = 0; i < book.length(); i++) {
            int one = book.one(i);
            int other = book.other(i);
            boolean isThere = shelf.has(one) && shelf.has(other);
            if (!isThere || judge.areAlike(one, other) != book.saidAlike(i)) {
                return i;
            }
        }
        return NONE;
    }

    public int number(int s, int what) {
        if (!shelf.has(s)) {
            return UNKNOWN;
        }
        if (what < 0 || what >= Shelf.CELLS) {
            return OUTSIDE;
        }
        return shelf.cell(s, what) + BOUND;
    }

    public int square(int s, int what) {
        if (!shelf.has(s)) {
            return UNKNOWN;
        }
        judge.lookAround(shelf);
        Kin kin = judge.kinOf(s);
        switch (what) {
            case 0:
                return kin.kind();
            case 1:
                return kin.trace() + 2 * BOUND;
            case 2:
                return kin.sign() + 1;
            case 3:
                return kin.order();
            case 4:
                return kin.kind() == KIND_SHIFT ? kin.mark() + 3 * BOUND : 0;
            case 5:
                return kin.wheel().count();
            case 6:
                return kin.wheel().times();
            case 7:
                return judge.isTwin(s) ? 1 : 0;
            case 8:
                return judge.familyOf(s);
            case 9:
                return judge.isLikeMirrored(s) ? 1 : 0;
            case 10:
                return kin.wheel().letters();
            default:
                return OUTSIDE;
        }
    }

    public int run(int s, int k) {
        if (!shelf.has(s)) {
            return UNKNOWN;
        }
        judge.lookAround(shelf);
        return judge.kinOf(s).wheel().runAt(k);
    }

    // ---- deeds

    public int multiply(int a, int b) {
        if (!shelf.has(a) || !shelf.has(b)) {
            return UNKNOWN;
        }
        if (shelf.isFull()) {
            return FULL;
        }
        shelf.load(a, first);
        shelf.load(b, second);
        result.setProduct(first, second);
        if (!result.isWithinBounds()) {
            return NOT;
        }
        return place(result);
    }

    public int back(int s) {
        if (!shelf.has(s)) {
            return UNKNOWN;
        }
        shelf.load(s, result);
        result.turnBack();
        return exchange(s, result);
    }

    public int carry(int s, int b) {
        if (!shelf.has(s) || !shelf.has(b)) {
            return UNKNOWN;
        }
        shelf.load(s, first);
        shelf.load(b, second);
        // The numbers stay below 4 times 10 to the 18, so that no long runs over.
        result.setProduct(second, first);
        second.turnBack();
        result.setProduct(result, second);
        if (!result.isWithinBounds()) {
            return NOT;
        }
        return exchange(s, result);
    }

    public int raise(int s, int n) {
        if (!shelf.has(s)) {
            return UNKNOWN;
        }
        if (n < 0 || n > HIGHEST_POWER) {
            return OUTSIDE;
        }
        shelf.load(s, first);
        result.setOne();
        for (int i = 0; i < n; i++) {
            result.setProduct(result, first);
            if (!result.isWithinBounds()) {
                return NOT;
            }
        }
        return exchange(s, result);
    }

    public int take(int s) {
        if (!shelf.has(s)) {
            return UNKNOWN;
        }
        past.remember(shelf);
        shelf.remove(s);
        return shelf.size();
    }

    public int drift(int n) {
        if (n < 1 || n > SHELF_ROOM) {
            return OUTSIDE;
        }
        for (int i = 0; i < n && !shelf.isFull(); i++) {
            drawSquare(result);
            place(result);
        }
        return shelf.size();
    }

    public int undo(int n) {
        if (n < 1 || n > PAST_ROOM) {
            return OUTSIDE;
        }
        if (n > past.length()) {
            return NOT;
        }
        past.restore(n, shelf);
        return shelf.size();
    }

    private int place(Square made) {
        past.remember(shelf);
        return shelf.add(made);
    }

    private int exchange(int s, Square made) {
        past.remember(shelf);
        return shelf.store(s, made) ? 1 : 0;
    }

    private void drawSquare(Square into) {
        into.setOne();
        int letters = draw(8) + 2;
        for (int i = 0; i < letters; i++) {
            into.multiplyByLetter(DRAWN_LETTERS.charAt(draw(6)));
        }
    }

    private int draw(int n) {
        long next = (long) seedNow * 1103515245L + 12345L;
        seedNow = (int) (next & 2147483647L);
        return n > 0 ? seedNow / 65536 % n : 0;
    }

    // ---- asked

    public int pair(int s, int u, int what) {
        if (!shelf.has(s) || !shelf.has(u)) {
            return UNKNOWN;
        }
        judge.lookAround(shelf);
        switch (what) {
            case 0:
                return judge.areAlike(s, u) ? 1 : 0;
            case 1:
                return judge.goTogether(s, u) ? 1 : 0;
            case 2:
                return judge.begins(s, u);
            default:
                return OUTSIDE;
        }
    }

    // ---- the book

    public int note(int s, int u, boolean alike) {
        if (!shelf.has(s) || !shelf.has(u)) {
            return UNKNOWN;
        }
        if (book.isFull()) {
            return FULL;
        }
        book.append(s, u, alike);
        return book.length();
    }

    public int tear() {
        int had = book.length();
        book.clear();
        return had;
    }

    // ---- images

    public int seed(int v) {
        if (v < 0) {
            return OUTSIDE;
        }
        int was = seedNow;
        seedNow = v;
        return was;
    }

    public int keep(int i) {
        if (i < 0 || i >= IMAGE_COUNT) {
            return UNKNOWN;
        }
        images[i].fill(shelf, seedNow);
        past.forget();
        return 1;
    }

    public int goBack(int i) {
        if (i < 0 || i >= IMAGE_COUNT) {
            return UNKNOWN;
        }
        if (!images[i].isKept()) {
            return NOT;
        }
        shelf.copyFrom(images[i].shelf());
        seedNow = images[i].seedThen();
        past.forget();
        return 1;
    }

    /** Four numbers; on the way to an answer they may be out of a square's bounds. */
    private static final class Square {
        private long a;
        private long b;
        private long c;
        private long d;

        void set(long newA, long newB, long newC, long newD) {
            a = newA;
            b = newB;
            c = newC;
            d = newD;
        }

        void setOne() {
            set(1, 0, 0, 1);
        }

        void copyFrom(Square other) {
            a = other.a;
            b = other.b;
            c = other.c;
            d = other.d;
        }

        void setProduct(Square left, Square right) {
            set(left.a * right.a + left.b * right.c,
                left.a * right.b + left.b * right.d,
                left.c * right.a + left.d * right.c,
                left.c * right.b + left.d * right.d);
        }

        void turnBack() {
            set(d, -b, -c, a);
        }

        void changeSigns() {
            set(-a, -b, -c, -d);
        }

        void mirror() {
            set(a, -b, -c, d);
        }

        /** Multiplies by a letter from the right; false, and nothing is done, for a letter that there is not. */
        boolean multiplyByLetter(int letter) {
            switch (letter) {
                case 'R':
                    set(a, a + b, c, c + d);
                    return true;
                case 'L':
                    set(a + b, b, c + d, d);
                    return true;
                case 'r':
                    set(a, b - a, c, d - c);
                    return true;
                case 'l':
                    set(a - b, b, c - d, d);
                    return true;
                case 'S':
                    set(b, -a, d, -c);
                    return true;
                case 's':
                    set(-b, a, -d, c);
                    return true;
                default:
                    return false;
            }
        }

        /** Carries it over by the k-th power of R. */
        void carryByR(long k) {
            b += k * (d - a) - k * k * c;
            a += k * c;
            d -= k * c;
        }

        /** Carries it over by the k-th power of L. */
        void carryByL(long k) {
            c += k * (a - d) - k * k * b;
            a -= k * b;
            d += k * b;
        }

        /** Carries it over by S. */
        void carryByS() {
            long oldA = a;
            long oldB = b;
            a = d;
            b = -c;
            c = -oldB;
            d = oldA;
        }

        /** Carries a stretch with a trace above 0 over until it is a product of R and L: no number below 0. */
        void carryToProduct() {
            // As long as b and c differ in sign, c becomes less than half of itself in each step.
            for (int step = 0; step < HALVINGS && !hasLikeSides(); step++) {
                carryByR(stepsToEvenOut());
                if (!hasLikeSides()) {
                    carryByS();
                }
            }
            if (b < 0) {
                carryByS();
            }
        }

        /** The power of R that brings a and d as near to one another as can be. */
        private long stepsToEvenOut() {
            long wide = 2 * Math.abs(c);
            if (wide == 0) {
                return 0;
            }
            long steps = Math.floorDiv(d - a + wide / 2, wide);
            return c > 0 ? steps : -steps;
        }

        private boolean hasLikeSides() {
            return b > 0 && c > 0 || b < 0 && c < 0;
        }

        long trace() {
            return a + d;
        }

        boolean hasAreaOne() {
            return a * d - b * c == 1;
        }

        boolean isWithinBounds() {
            return isNumber(a) && isNumber(b) && isNumber(c) && isNumber(d);
        }

        private static boolean isNumber(long x) {
            return x >= -BOUND && x <= BOUND;
        }

        boolean isOne() {
            return a == 1 && b == 0 && c == 0 && d == 1;
        }

        boolean hasNoneBelowZero() {
            return a >= 0 && b >= 0 && c >= 0 && d >= 0;
        }

        boolean isSameAs(Square other) {
            return a == other.a && b == other.b && c == other.c && d == other.d;
        }
    }

    /** A product of R and L, read run by run from its beginning. */
    private static final class Word {
        private final Square whole = new Square();

        void copyFrom(Square product) {
            whole.copyFrom(product);
        }

        boolean isEmpty() {
            return whole.isOne();
        }

        boolean beginsWithR() {
            return whole.a >= whole.c && whole.b >= whole.d;
        }

        /** How often the lower row can be taken from the upper one, or the upper from the lower: none below 0 left. */
        private long firstRun(boolean isR) {
            long left = isR ? whole.a : whole.c;
            long right = isR ? whole.b : whole.d;
            long takenLeft = isR ? whole.c : whole.a;
            long takenRight = isR ? whole.d : whole.b;
            long most = takenLeft > 0 ? left / takenLeft : Long.MAX_VALUE;
            return takenRight > 0 ? Math.min(most, right / takenRight) : most;
        }

        /** Leaves out the first run: its letters. */
        long dropFirstRun() {
            boolean isR = beginsWithR();
            long length = firstRun(isR);
            if (isR) {
                whole.a -= length * whole.c;
                whole.b -= length * whole.d;
            } else {
                whole.c -= length * whole.a;
                whole.d -= length * whole.b;
            }
            return length;
        }

        /** Brings the first run to the end: its letters. */
        long turnFirstRun() {
            boolean isR = beginsWithR();
            long length = firstRun(isR);
            if (isR) {
                whole.carryByR(-length);
            } else {
                whole.carryByL(-length);
            }
            return length;
        }

        /** How many letters of the first run must be turned for it to be the other one; NONE. */
        long turnsInFirstRun(Square other) {
            if (other.trace() != whole.trace()) {
                return NONE;
            }
            // A turned R leaves c, and d grows by c; a turned L leaves b, and a grows by b; the rest follows.
            if (beginsWithR()) {
                return other.c == whole.c ? stepsUpTo(firstRun(true), other.d - whole.d, whole.c) : NONE;
            }
            return other.b == whole.b ? stepsUpTo(firstRun(false), other.a - whole.a, whole.b) : NONE;
        }

        private static long stepsUpTo(long most, long way, long step) {
            if (step <= 0 || way < 0 || way % step != 0 || way / step > most) {
                return NONE;
            }
            return way / step;
        }
    }

    /** The runs of a stretch, from their least beginning; no runs for what is no stretch. */
    private static final class Wheel {
        private final int[] runs = new int[RUNS_ROOM];
        private final Square seenElsewhere = new Square();
        private final Word word = new Word();
        private int count = 0;
        private int start = 0;

        void clear() {
            count = 0;
            start = 0;
        }

        void read(Square stretch) {
            seenElsewhere.copyFrom(stretch);
            if (seenElsewhere.trace() < 0) {
                seenElsewhere.changeSigns();
            }
            seenElsewhere.carryToProduct();
            word.copyFrom(seenElsewhere);
            // A run that was turned is whole at the end, so that the next one is whole at the beginning.
            word.turnFirstRun();
            if (!word.beginsWithR()) {
                word.turnFirstRun();
            }
            clear();
            while (count < RUNS_ROOM && !word.isEmpty()) {
                runs[count] = (int) word.dropFirstRun();
                count++;
            }
            findLeastStart();
        }

        private void findLeastStart() {
            for (int candidate = 2; candidate < count; candidate += 2) {
                if (isLessFrom(candidate, start)) {
                    start = candidate;
                }
            }
        }

        private boolean isLessFrom(int candidate, int best) {
            for (int k = 0; k < count; k++) {
                int mine = runs[(candidate + k) % count];
                int other = runs[(best + k) % count];
                if (mine != other) {
                    return mine < other;
                }
            }
            return false;
        }

        int count() {
            return count;
        }

        int runAt(int k) {
            return k >= 0 && k < count ? runs[(start + k) % count] : NONE;
        }

        int letters() {
            int sum = 0;
            for (int k = 0; k < count; k++) {
                sum += runs[k];
            }
            return sum;
        }

        int times() {
            // A row begins with R, too, so it has an even number of runs.
            for (int row = 2; row <= count; row += 2) {
                if (count % row == 0 && comesAgainAfter(row)) {
                    return count / row;
                }
            }
            return 0;
        }

        private boolean comesAgainAfter(int row) {
            for (int k = row; k < count; k++) {
                if (runs[k] != runs[k - row]) {
                    return false;
                }
            }
            return true;
        }

        boolean isSameAs(Wheel other) {
            if (count != other.count) {
                return false;
            }
            for (int k = 0; k < count; k++) {
                if (runAt(k) != other.runAt(k)) {
                    return false;
                }
            }
            return true;
        }
    }

    /** What two squares have in common just when they are alike. */
    private static final class Kin {
        // Four times 0 is no square at first, so that the first one is looked at.
        private final Square seen = new Square();
        private final Wheel wheel = new Wheel();
        private int kind = KIND_ONE;
        private int mark = 0;

        void lookAt(Square s) {
            if (seen.isSameAs(s)) {
                return;
            }
            seen.copyFrom(s);
            kind = kindOf(s);
            mark = markOf(s);
            if (kind == KIND_STRETCH) {
                wheel.read(s);
            } else {
                wheel.clear();
            }
        }

        private static int kindOf(Square s) {
            long size = Math.abs(s.trace());
            if (size < 2) {
                return KIND_ROUND;
            }
            if (size > 2) {
                return KIND_STRETCH;
            }
            return s.b == 0 && s.c == 0 ? KIND_ONE : KIND_SHIFT;
        }

        private int markOf(Square s) {
            if (kind == KIND_ROUND) {
                return Long.signum(s.c);
            }
            return kind == KIND_SHIFT ? measureShift(s) : 0;
        }

        /** A shift by n along the line of x, y (without a common part): b is n x x, c is -n y y. */
        private static int measureShift(Square s) {
            long size = commonPart(Math.abs(s.b), Math.abs(s.c));
            boolean isForth = s.b > 0 || s.c < 0;
            boolean isChanged = s.trace() < 0;
            return (int) (isForth == isChanged ? -size : size);
        }

        private static long commonPart(long x, long y) {
            long greater = x;
            long rest = y;
            for (int step = 0; step < HALVINGS && rest != 0; step++) {
                long next = greater % rest;
                greater = rest;
                rest = next;
            }
            return greater;
        }

        boolean isLike(Kin other) {
            return kind == other.kind && mark == other.mark && trace() == other.trace() && wheel.isSameAs(other.wheel);
        }

        int kind() {
            return kind;
        }

        int trace() {
            return (int) seen.trace();
        }

        int sign() {
            return trace() < 0 ? -1 : 1;
        }

        int order() {
            if (kind == KIND_ONE) {
                return trace() > 0 ? 1 : 2;
            }
            if (kind == KIND_ROUND) {
                return trace() == 0 ? 4 : trace() > 0 ? 6 : 3;
            }
            return NONE;
        }

        /** The sign of c of a round one, BY of a shift, 0 of others. */
        int mark() {
            return mark;
        }

        Wheel wheel() {
            return wheel;
        }
    }

    /** Answers what is asked of the squares of a shelf, as it saw them when it looked around. */
    private static final class Judge {
        private final Kin[] kins = new Kin[SHELF_ROOM];
        private final Kin strangeKin = new Kin();
        private final Square strange = new Square();
        private final Square oneByOther = new Square();
        private final Square otherByOne = new Square();
        private final Word word = new Word();
        private int size = 0;

        Judge() {
            for (int s = 0; s < SHELF_ROOM; s++) {
                kins[s] = new Kin();
            }
        }

        /** Brings the kin of all squares up to what the shelf holds now. */
        void lookAround(Shelf shelf) {
            size = shelf.size();
            for (int s = 0; s < size; s++) {
                shelf.load(s, strange);
                kins[s].lookAt(strange);
            }
        }

        Kin kinOf(int s) {
            return kins[s];
        }

        boolean areAlike(int s, int u) {
            return kins[s].isLike(kins[u]);
        }

        boolean isTwin(int s) {
            strange.copyFrom(kins[s].seen);
            strange.turnBack();
            strangeKin.lookAt(strange);
            return kins[s].isLike(strangeKin);
        }

        boolean isLikeMirrored(int s) {
            strange.copyFrom(kins[s].seen);
            strange.mirror();
            strangeKin.lookAt(strange);
            return kins[s].isLike(strangeKin);
        }

        int countTwins() {
            int twins = 0;
            for (int s = 0; s < size; s++) {
                if (isTwin(s)) {
                    twins++;
                }
            }
            return twins;
        }

        int familyOf(int s) {
            int family = 0;
            for (int u = 0; u < size; u++) {
                if (areAlike(s, u)) {
                    family |= 1 << u;
                }
            }
            return family;
        }

        int countFamilies() {
            int families = 0;
            for (int s = 0; s < size; s++) {
                // Each family is counted at its least square.
                if (Integer.numberOfTrailingZeros(familyOf(s)) == s) {
                    families++;
                }
            }
            return families;
        }

        int greatestFamily() {
            int greatest = 0;
            for (int s = 0; s < size; s++) {
                int family = familyOf(s);
                if (Integer.bitCount(family) > Integer.bitCount(greatest)) {
                    greatest = family;
                }
            }
            return greatest;
        }

        boolean goTogether(int s, int u) {
            oneByOther.setProduct(kins[s].seen, kins[u].seen);
            otherByOne.setProduct(kins[u].seen, kins[s].seen);
            return oneByOther.isSameAs(otherByOne);
        }

        int begins(int s, int u) {
            Square one = kins[s].seen;
            Square other = kins[u].seen;
            boolean areStretches = kins[s].kind() == KIND_STRETCH && kins[u].kind() == KIND_STRETCH;
            if (!areStretches || !one.hasNoneBelowZero() || !other.hasNoneBelowZero()) {
                return NONE;
            }
            word.copyFrom(one);
            long turned = 0;
            // Once round is as many runs as there are, and one more if the first was cut in two.
            for (int step = 0; step <= RUNS_ROOM; step++) {
                long more = word.turnsInFirstRun(other);
                if (more != NONE) {
                    return (int) (turned + more);
                }
                turned += word.turnFirstRun();
            }
            return NONE;
        }
    }

    /** The squares, numbered as they came. */
    private static final class Shelf {
        private static final int CELLS = 4;

        private final int[] cells = new int[SHELF_ROOM * CELLS];
        private int size = 0;

        int size() {
            return size;
        }

        boolean isFull() {
            return size >= SHELF_ROOM;
        }

        boolean has(int s) {
            return s >= 0 && s < size;
        }

        int cell(int s, int what) {
            return cells[s * CELLS + what];
        }

        void load(int s, Square into) {
            int at = s * CELLS;
            into.set(cells[at], cells[at + 1], cells[at + 2], cells[at + 3]);
        }

        /** Whether it is another one then. */
        boolean store(int s, Square from) {
            boolean isOther = cell(s, 0) != from.a || cell(s, 1) != from.b || cell(s, 2) != from.c || cell(s, 3) != from.d;
            int at = s * CELLS;
            cells[at] = (int) from.a;
            cells[at + 1] = (int) from.b;
            cells[at + 2] = (int) from.c;
            cells[at + 3] = (int) from.d;
            return isOther;
        }

        /** The number of the new square. */
        int add(Square made) {
            if (isFull()) {
                return FULL;
            }
            store(size, made);
            size++;
            return size - 1;
        }

        void remove(int s) {
            int at = s * CELLS;
            System.arraycopy(cells, at + CELLS, cells, at, (size - s - 1) * CELLS);
            size--;
        }

        void copyFrom(Shelf other) {
            System.arraycopy(other.cells, 0, cells, 0, other.size * CELLS);
            size = other.size;
        }
    }

    /** The shelf as it was ahead of each of the latest deeds; of more than there is room for, the oldest go. */
    private static final class Past {
        private final Shelf[] shelves = new Shelf[PAST_ROOM];
        private int next = 0;
        private int length = 0;

        Past() {
            for (int i = 0; i < PAST_ROOM; i++) {
                shelves[i] = new Shelf();
            }
        }

        int length() {
            return length;
        }

        void remember(Shelf shelf) {
            shelves[next].copyFrom(shelf);
            next = (next + 1) % PAST_ROOM;
            length = Math.min(length + 1, PAST_ROOM);
        }

        void restore(int deeds, Shelf into) {
            next = Math.floorMod(next - deeds, PAST_ROOM);
            length -= deeds;
            into.copyFrom(shelves[next]);
        }

        void forget() {
            length = 0;
        }
    }

    /** A shelf and a seed to go on from. */
    private static final class Image {
        private final Shelf shelf = new Shelf();
        private int seedThen = 0;
        private boolean isKept = false;

        void fill(Shelf now, int seedNow) {
            shelf.copyFrom(now);
            seedThen = seedNow;
            isKept = true;
        }

        boolean isKept() {
            return isKept;
        }

        Shelf shelf() {
            return shelf;
        }

        int seedThen() {
            return seedThen;
        }
    }

    /** The letters that wait to be written. */
    private static final class Text {
        private final int[] letters = new int[TEXT_ROOM];
        private int length = 0;
        private int faultPlace = NONE;

        int length() {
            return length;
        }

        boolean isFull() {
            return length >= TEXT_ROOM;
        }

        void append(int letter) {
            if (!isFull()) {
                letters[length] = letter;
                length++;
            }
        }

        void clear() {
            length = 0;
        }

        /** The place of the fault of the latest spelling; NONE. */
        int faultPlace() {
            return faultPlace;
        }

        /** Multiplies the letters: the number of the first fault. */
        int spell(Square into) {
            into.setOne();
            faultPlace = NONE;
            for (int i = 0; i < length; i++) {
                if (!into.multiplyByLetter(letters[i])) {
                    faultPlace = i;
                    return FAULT_LETTER;
                }
                if (!into.isWithinBounds()) {
                    faultPlace = i;
                    return FAULT_BOUNDS;
                }
            }
            return NO_FAULT;
        }
    }

    /** What was said of pairs of squares, by the squares' numbers. */
    private static final class Book {
        private final int[] ones = new int[BOOK_ROOM];
        private final int[] others = new int[BOOK_ROOM];
        private final boolean[] saidAlike = new boolean[BOOK_ROOM];
        private int length = 0;

        int length() {
            return length;
        }

        boolean isFull() {
            return length >= BOOK_ROOM;
        }

        void append(int one, int other, boolean alike) {
            if (!isFull()) {
                ones[length] = one;
                others[length] = other;
                saidAlike[length] = alike;
                length++;
            }
        }

        void clear() {
            length = 0;
        }

        int one(int i) {
            return i >= 0 && i < length ? ones[i] : NONE;
        }

        int other(int i) {
            return i >= 0 && i < length ? others[i] : NONE;
        }

        boolean saidAlike(int i) {
            return i >= 0 && i < length && saidAlike[i];
        }
    }
}
