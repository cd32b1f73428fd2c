/** A bench of polynomials over rests; what it must do is told in ../shared/DOC.md, promise by promise. */
public final class PolyBench {
    public static final int NONE = -1, BAD = -2, STATE = -3, FULL = -4;
    public static final long NO = -4611686018427387904L;

    private static final int NOTHING = -11, OUTSIDE = -12, OTHER_SORT = -13, SIZE_BELOW = -14;
    private static final int FAULTS = -100;

    private static final int POLYS = 8, LONGEST = 32, WAYS = 8, CUTS = 16, TEXTS = 6, TAPE = 160;
    private static final int PLACES = 16, POWERS = 999, SHEETS = 4, ITEMS = 40;

    // Room for a product of two POLYS, and for that one times x.
    private static final int WIDE = 2 * LONGEST;

    private static final String FIRST_RULE = "plain n * m ; split size * cut + 9 ; turn 80 ;";

    private final Rests rests;
    private final Algebra algebra;
    private final Row[] polys = new Row[POLYS];
    private final Row made = new Row(WIDE);
    private final Way[] ways = new Way[WAYS];
    private int wayCount;
    private long allCounted;
    private final Tape tape = new Tape();
    private final Grammar grammar;
    private final Text[] texts = new Text[TEXTS];
    private int textCount;
    private int rule;
    private final int[] names = new int[Text.NAMES];
    private final Places places;
    private final Sheet[] sheets = new Sheet[SHEETS];

    public PolyBench(int prime) {
        rests = new Rests(prime);
        algebra = new Algebra(rests);
        places = new Places(rests, algebra);
        grammar = new Grammar(tape);
        for (int i = 0; i < POLYS; i++) {
            polys[i] = new Row(LONGEST);
        }
        for (int i = 0; i < SHEETS; i++) {
            sheets[i] = new Sheet();
        }
        for (int i = 0; i < TEXTS; i++) {
            texts[i] = new Text();
        }
        tape.write(FIRST_RULE);
        tape.cutUp();
        grammar.readInto(texts[0]);
        tape.wipe();
        textCount = 1;
    }

    // ---- the POLYS

    public int put(int poly, int i, int c) {
        if (!isPoly(poly) || !isWithin(i, LONGEST)) {
            return BAD;
        }
        int was = polys[poly].get(i);
        polys[poly].set(i, rests.rest(c));
        return was;
    }

    public int at(int poly, int i) {
        if (!isPoly(poly) || i < -1 || i >= LONGEST) {
            return BAD;
        }
        return i == -1 ? polys[poly].length() : polys[poly].get(i);
    }

    public int clear(int poly) {
        if (!isPoly(poly)) {
            return BAD;
        }
        int was = polys[poly].length();
        polys[poly].wipe();
        return was;
    }

    public int sum(int to, int a, int times, int b) {
        if (!arePolys(to, a, b)) {
            return BAD;
        }
        made.copy(polys[b]);
        algebra.addMultiple(made, rests.rest(times), polys[a], 0);
        return become(to, made);
    }

    // ---- ways

    public int way(int kind, int cut) {
        if (!isWithin(kind, Way.KINDS) || cut < 1 || cut > CUTS) {
            return BAD;
        }
        if (wayCount >= WAYS) {
            return FULL;
        }
        ways[wayCount] = new Way(kind, cut);
        wayCount++;
        return wayCount - 1;
    }

    public int times(int to, int a, int b, int way) {
        if (!arePolys(to, a, b) || !isWay(way)) {
            return BAD;
        }
        return multiply(to, a, b, way);
    }

    public int cost(int a, int b, int way) {
        if (!isPoly(a) || !isPoly(b) || !isWay(way)) {
            return BAD;
        }
        return countFor(a, b, way);
    }

    public int plan(int a, int b) {
        if (!isPoly(a) || !isPoly(b)) {
            return BAD;
        }
        return bestWay(a, b);
    }

    public int planned(int to, int a, int b) {
        if (!arePolys(to, a, b)) {
            return BAD;
        }
        int best = bestWay(a, b);
        if (best == NONE) {
            return STATE;
        }
        return multiply(to, a, b, best) == FULL ? FULL : best;
    }

    public int feed(int n, long bytes) {
        if (n < 1 || n > 8) {
            return BAD;
        }
        if (tape.size() + n > TAPE) {
            return FULL;
        }
        tape.append(n, bytes);
        return tape.size();
    }

    public int text() {
        if (textCount >= TEXTS) {
            return FULL;
        }
        tape.cutUp();
        int fault = grammar.readInto(texts[textCount]);
        tape.wipe();
        if (fault != NONE) {
            return FAULTS - fault;
        }
        textCount++;
        return textCount - 1;
    }

    public int force(int text) {
        if (!isWithin(text, textCount)) {
            return BAD;
        }
        int was = rule;
        rule = text;
        return was;
    }

    public long says(int way, int a, int b) {
        if (!isWay(way) || !isPoly(a) || !isPoly(b)) {
            return NO;
        }
        return ruleFor(a, b, way);
    }

    // ---- one of two

    public int divide(int to, int a, int b, boolean rest) {
        if (!arePolys(to, a, b)) {
            return BAD;
        }
        if (polys[b].length() == 0) {
            return STATE;
        }
        made.copy(polys[a]);
        Row quotient = algebra.reduce(made, polys[b]);
        return become(to, rest ? made : quotient);
    }

    public int gcd(int to, int a, int b) {
        if (!arePolys(to, a, b)) {
            return BAD;
        }
        return become(to, algebra.commonDivisor(polys[a], polys[b]));
    }

    public int cofactor(int to, int a, int b) {
        if (!arePolys(to, a, b)) {
            return BAD;
        }
        return become(to, algebra.leastCofactor(polys[a], polys[b]));
    }

    public int compose(int to, int a, int b) {
        if (!arePolys(to, a, b)) {
            return BAD;
        }
        int n = polys[a].length();
        int m = polys[b].length();
        // The LEADS' product is never 0, so the LENGTH is known ahead.
        if (n > 1 && m > 1 && (n - 1) * (m - 1) + 1 > LONGEST) {
            return FULL;
        }
        return become(to, algebra.composed(polys[a], polys[b]));
    }

    public int move(int to, int a, int by) {
        if (!isPoly(to) || !isPoly(a)) {
            return BAD;
        }
        return become(to, algebra.moved(polys[a], rests.rest(by)));
    }

    public int root(int a, int i) {
        if (!isPoly(a)) {
            return BAD;
        }
        if (polys[a].length() == 0) {
            return STATE;
        }
        int count = algebra.seekRoots(polys[a]);
        if (i == -1) {
            return count;
        }
        return isWithin(i, count) ? algebra.soughtRoot(i) : NONE;
    }

    public int order(int a, int x) {
        if (!isPoly(a)) {
            return BAD;
        }
        if (polys[a].length() == 0) {
            return STATE;
        }
        Row moved = algebra.moved(polys[a], rests.rest(x));
        int zeros = 0;
        while (zeros < moved.length() && moved.get(zeros) == 0) {
            zeros++;
        }
        return zeros;
    }

    // ---- places

    public int place(int x) {
        if (places.size() >= PLACES) {
            return FULL;
        }
        places.append(rests.rest(x));
        return places.size() - 1;
    }

    public int leave() {
        int were = places.size();
        places.wipe();
        return were;
    }

    public int see(int i, int v) {
        if (!isPlace(i)) {
            return BAD;
        }
        int was = places.valueOf(i);
        places.give(i, rests.rest(v));
        return was;
    }

    public int told(int i, int what) {
        if (!isPlace(i) || !isWithin(what, 2)) {
            return BAD;
        }
        return what == 0 ? places.numberOf(i) : places.valueOf(i);
    }

    public int value(int a, int i) {
        if (!isPoly(a) || !isPlace(i)) {
            return BAD;
        }
        return algebra.evaluated(polys[a], places.numberOf(i));
    }

    public int look(int a) {
        if (!isPoly(a)) {
            return BAD;
        }
        for (int i = 0; i < places.size(); i++) {
            places.give(i, algebra.evaluated(polys[a], places.numberOf(i)));
        }
        return places.size();
    }

    public int fill(int to) {
        if (!isPoly(to)) {
            return BAD;
        }
        return become(to, places.interpolated());
    }

    public int right(int to, int k) {
        if (!isPoly(to) || k < 1 || k > places.size()) {
            return BAD;
        }
        if (places.hasAlike()) {
            return STATE;
        }
        Row found = places.nearest(k);
        int wrong = places.wrongFor(found);
        if (found.length() > k || wrong > (places.size() - k) / 2) {
            return NONE;
        }
        become(to, found);
        return wrong;
    }

    public int relation(int j) {
        int size = places.seekRelation();
        if (j < 0 || j > size) {
            return BAD;
        }
        if (j == 0) {
            return size;
        }
        return 2 * size > places.size() ? STATE : places.soughtFactor(j);
    }

    public int power(int j) {
        if (j < 0 || j > POWERS) {
            return BAD;
        }
        return places.summed(j);
    }

    public int count(int what) {
        switch (what) {
            case 0: return rests.prime();
            case 1: return wayCount;
            case 2: return places.size();
            case 3: return textCount;
            case 4: return tape.size();
            case 5: return rule;
            default: return BAD;
        }
    }

    public long counted() {
        return allCounted;
    }

    // ---- the host

    public int sheet(int sheet, int sort, int n) {
        if (!isWithin(sheet, SHEETS) || sort != Sheet.MISSING && !isWithin(sort, Sheet.SORTS)) {
            return BAD;
        }
        if (sort == Sheet.MISSING) {
            sheets[sheet].begin(sort, 0);
            return 1;
        }
        if (n > ITEMS) {
            return BAD;
        }
        if (n < 0) {
            return SIZE_BELOW;
        }
        sheets[sheet].begin(sort, n);
        return 1;
    }

    public int cell(int sheet, int i, int v) {
        if (!isWithin(sheet, SHEETS)) {
            return BAD;
        }
        if (sheets[sheet].sort() == Sheet.MISSING) {
            return NOTHING;
        }
        if (!isWithin(i, sheets[sheet].size())) {
            return OUTSIDE;
        }
        sheets[sheet].write(i, v);
        return 1;
    }

    public int lay(int poly, int sheet, int sort, int from, int n) {
        if (!isPoly(poly) || !isWithin(sheet, SHEETS) || !isWithin(sort, Sheet.SORTS) || n < 0 || n > LONGEST) {
            return BAD;
        }
        Sheet source = sheets[sheet];
        // A missing row may be taken for one of any sort.
        if (source.sort() != Sheet.MISSING && source.sort() != sort) {
            return OTHER_SORT;
        }
        if (source.sort() == Sheet.MISSING) {
            return NOTHING;
        }
        if (n > 0 && (from < 0 || from > source.size() - n)) {
            return OUTSIDE;
        }
        made.wipe();
        for (int i = 0; i < n; i++) {
            made.set(i, rests.rest(source.read(from + i)));
        }
        return become(poly, made);
    }

    public int taken(int way, int k) {
        if (!isWithin(k, Way.KINDS)) {
            return BAD;
        }
        if (!isWay(way)) {
            return NOTHING;
        }
        return ways[way].isUnder(k) ? ways[way].cut() : OTHER_SORT;
    }

    // ---- what the calls share

    private static boolean isWithin(int i, int size) {
        return i >= 0 && i < size;
    }

    private static boolean isPoly(int poly) {
        return isWithin(poly, POLYS);
    }

    private static boolean arePolys(int to, int a, int b) {
        return isPoly(to) && isPoly(a) && isPoly(b);
    }

    private boolean isWay(int way) {
        return isWithin(way, wayCount) && ways[way] != null;
    }

    private boolean isPlace(int i) {
        return isWithin(i, places.size());
    }

    private int become(int to, Row row) {
        polys[to].copy(row);
        return polys[to].length();
    }

    /** COUNT of a product of two POLYS by a WAY, or FULL. */
    private int countFor(int a, int b, int way) {
        return ways[way].countOf(polys[a].length(), polys[b].length(), polys[a].isLike(polys[b]));
    }

    private int multiply(int to, int a, int b, int way) {
        int count = countFor(a, b, way);
        if (count == FULL || polys[a].length() + polys[b].length() - 1 > LONGEST) {
            return FULL;
        }
        become(to, algebra.multiplied(polys[a], polys[b]));
        allCounted += count;
        return count;
    }

    private int ruleFor(int a, int b, int way) {
        int n = polys[a].length();
        int m = polys[b].length();
        names[Text.NAME_N] = n;
        names[Text.NAME_M] = m;
        names[Text.NAME_SIZE] = Math.max(n, m);
        names[Text.NAME_CUT] = ways[way].cut();
        names[Text.NAME_KIND] = ways[way].kind();
        names[Text.NAME_SAME] = polys[a].isLike(polys[b]) ? 1 : 0;
        return texts[rule].worth(ways[way].part(), names);
    }

    private int bestWay(int a, int b) {
        int best = NONE;
        int least = 0;
        for (int way = 0; way < wayCount; way++) {
            if (countFor(a, b, way) == FULL) {
                continue;
            }
            int said = ruleFor(a, b, way);
            if (best == NONE || said < least) {
                best = way;
                least = said;
            }
        }
        return best;
    }

    /** NUMBERS: rests of one prime. */
    private static final class Rests {
        // The greatest PRIME, 7681, has 13 bits.
        static final int BITS = 13;

        private final int prime;

        Rests(int which) {
            prime = primeOf(which);
        }

        private static int primeOf(int which) {
            switch (Math.floorMod(which, 4)) {
                case 0: return 97;
                case 1: return 193;
                case 2: return 257;
                default: return 7681;
            }
        }

        int prime() {
            return prime;
        }

        int rest(long number) {
            int rest = (int) (number % prime);
            return rest < 0 ? rest + prime : rest;
        }

        /** Of two NUMBERS, so of none below 0. */
        int product(int a, int b) {
            return (int) ((long) a * b % prime);
        }

        /** The power 0 is 1, of 0 too. */
        int raised(int number, int exponent) {
            int result = 1;
            int square = number;
            for (int left = exponent; left > 0; left >>= 1) {
                if ((left & 1) == 1) {
                    result = product(result, square);
                }
                square = product(square, square);
            }
            return result;
        }

        /** What makes 1 with a NUMBER; 0 has none and gives 0. */
        int inverse(int number) {
            return raised(number, prime - 2);
        }
    }

    /** A polynomial in a row of its own. Its LENGTH is kept with every change, and all beyond it is 0. */
    private static final class Row {
        private final int[] numbers;
        private int length;

        Row(int room) {
            numbers = new int[Math.max(room, 0)];
        }

        int length() {
            return length;
        }

        int get(int i) {
            return i >= 0 && i < numbers.length ? numbers[i] : 0;
        }

        int lead() {
            return get(length - 1);
        }

        void set(int i, int number) {
            if (i < 0 || i >= numbers.length) {
                return;
            }
            numbers[i] = number;
            if (number != 0 && i >= length) {
                length = i + 1;
            }
            while (length > 0 && numbers[length - 1] == 0) {
                length--;
            }
        }

        void wipe() {
            for (int i = 0; i < numbers.length; i++) {
                numbers[i] = 0;
            }
            length = 0;
        }

        void copy(Row from) {
            for (int i = 0; i < numbers.length; i++) {
                set(i, from.get(i));
            }
        }

        boolean isLike(Row other) {
            if (length != other.length()) {
                return false;
            }
            for (int i = 0; i < length; i++) {
                if (get(i) != other.get(i)) {
                    return false;
                }
            }
            return true;
        }
    }

    /**
     * What is made of one or two polynomials. An answer stands in a row that the next call may use again,
     * so it is copied before the next call; none of the rows that are asked about is changed but as told.
     */
    private static final class Algebra {
        private final Rests rests;
        private final Row product = new Row(WIDE);
        private final Row quotient = new Row(WIDE);
        private final Row result = new Row(WIDE);
        private final Row line = new Row(2);
        private Row older = new Row(WIDE);
        private Row newer = new Row(WIDE);
        private Row olderFactor = new Row(WIDE);
        private Row newerFactor = new Row(WIDE);

        Algebra(Rests rests) {
            this.rests = rests;
        }

        int evaluated(Row a, int x) {
            int total = 0;
            for (int i = a.length() - 1; i >= 0; i--) {
                total = rests.rest((long) total * x + a.get(i));
            }
            return total;
        }

        /** Adds to a row factor times x to the power by times another row. */
        void addMultiple(Row to, int factor, Row a, int by) {
            for (int i = 0; i < a.length(); i++) {
                to.set(i + by, rests.rest(to.get(i + by) + (long) factor * a.get(i)));
            }
        }

        Row multiplied(Row a, Row b) {
            product.wipe();
            for (int i = 0; i < a.length() + b.length() - 1; i++) {
                product.set(i, rests.rest(pairs(a, b, i)));
            }
            return product;
        }

        /** All products of a NUMBER of a and one of b whose places make i, together. */
        private static long pairs(Row a, Row b, int i) {
            long total = 0;
            int last = Math.min(i, a.length() - 1);
            for (int j = Math.max(0, i - b.length() + 1); j <= last; j++) {
                total += (long) a.get(j) * b.get(i - j);
            }
            return total;
        }

        /** Leaves the REST in the row and answers the QUOTIENT; by 0 leaves all. */
        Row reduce(Row row, Row by) {
            quotient.wipe();
            int size = by.length();
            if (size == 0) {
                return quotient;
            }
            int inverse = rests.inverse(by.lead());
            for (int i = row.length() - size; i >= 0; i--) {
                int factor = rests.product(row.get(i + size - 1), inverse);
                quotient.set(i, factor);
                addMultiple(row, -factor, by, i);
            }
            return quotient;
        }

        /**
         * The rests of Euclid's way till one has a LENGTH of at most a bound: newer, with older before it.
         * Each is its factor times second, but for a multiple of first.
         */
        void euclid(Row first, Row second, int bound) {
            older.copy(first);
            newer.copy(second);
            olderFactor.wipe();
            newerFactor.wipe();
            newerFactor.set(0, 1);
            for (int step = 0; step < WIDE && newer.length() > bound; step++) {
                Row many = reduce(older, newer);
                addMultiple(olderFactor, -1, multiplied(many, newerFactor), 0);
                Row row = older;
                older = newer;
                newer = row;
                row = olderFactor;
                olderFactor = newerFactor;
                newerFactor = row;
            }
        }

        Row commonDivisor(Row a, Row b) {
            euclid(b, a, 0);
            result.wipe();
            addMultiple(result, rests.inverse(older.lead()), older, 0);
            return result;
        }

        Row leastCofactor(Row a, Row b) {
            euclid(b, a, 0);
            result.wipe();
            addMultiple(result, rests.inverse(older.lead()), olderFactor, 0);
            if (b.length() > 0) {
                // Cofactors differ by multiples of b by GCD: the REST by that one is the least.
                newer.copy(b);
                newer.copy(reduce(newer, older));
                reduce(result, newer);
            }
            return result;
        }

        /** The QUOTIENT of the last of Euclid's rests by its factor. */
        Row lastByFactor() {
            return reduce(newer, newerFactor);
        }

        Row composed(Row a, Row b) {
            result.wipe();
            for (int i = a.length() - 1; i >= 0; i--) {
                result.copy(multiplied(result, b));
                result.set(0, rests.rest((long) result.get(0) + a.get(i)));
            }
            return result;
        }

        Row moved(Row a, int by) {
            return partMoved(a, by, a.length());
        }

        /** A row whose first NUMBERS, as many as are wanted, are those of the MOVED. */
        Row partMoved(Row a, int by, int wanted) {
            result.copy(a);
            for (int i = 0; i < wanted && i < a.length() - 1; i++) {
                for (int j = a.length() - 2; j >= i; j--) {
                    result.set(j, rests.rest(result.get(j) + (long) by * result.get(j + 1)));
                }
            }
            return result;
        }

        /** x less a number. */
        Row lineAt(int x) {
            line.set(0, rests.rest(-x));
            line.set(1, 1);
            return line;
        }

        /**
         * How many ROOTS a POLY that isn't 0 has. Keeps the product of x less each of them:
         * that is what the POLY shares with x to the power PRIME less x, whose ROOTS are all NUMBERS.
         */
        int seekRoots(Row a) {
            result.wipe();
            result.set(0, 1);
            for (int bit = Rests.BITS - 1; bit >= 0; bit--) {
                result.copy(multiplied(result, result));
                if ((rests.prime() >> bit & 1) == 1) {
                    result.copy(multiplied(result, lineAt(0)));
                }
                reduce(result, a);
            }
            addMultiple(result, -1, lineAt(0), 0);
            euclid(a, result, 0);
            result.copy(older);
            return result.length() - 1;
        }

        /** The i-th of the ROOTS that were sought just before. */
        int soughtRoot(int i) {
            int left = i;
            for (int x = 0; x < rests.prime() && result.length() > 1; x++) {
                if (result.length() == 2) {
                    return rests.product(rests.rest(-result.get(0)), rests.inverse(result.get(1)));
                }
                if (evaluated(result, x) != 0) {
                    continue;
                }
                if (left == 0) {
                    return x;
                }
                left--;
                // What is found is divided off, so that less is left to look through.
                result.copy(reduce(result, lineAt(x)));
            }
            return NONE;
        }
    }

    /** A WAY: its KIND and CUT, and what its COUNTS are. */
    private static final class Way {
        static final int KINDS = 6;
        private static final int PLAIN = 0, SPLIT = 1, THIRDS = 2, TURN = 3, MIXED = 4, TWICE = 5;

        private final int kind;
        private final int cut;
        private final int[] bySize = new int[LONGEST + 1];

        Way(int kind, int cut) {
            this.kind = kind;
            this.cut = cut;
            for (int size = 1; size <= LONGEST; size++) {
                bySize[size] = parted(size);
            }
        }

        int kind() {
            return kind;
        }

        int cut() {
            return cut;
        }

        private static int above(int kind) {
            switch (kind) {
                case SPLIT: return PLAIN;
                case THIRDS: return SPLIT;
                case TURN: return PLAIN;
                case MIXED: return THIRDS;
                case TWICE: return TURN;
                default: return NONE;
            }
        }

        boolean isUnder(int other) {
            int at = kind;
            for (int step = 0; step < KINDS && at != other; step++) {
                at = above(at);
            }
            return at == other;
        }

        int part() {
            if (kind == PLAIN) {
                return Text.PART_PLAIN;
            }
            return isUnder(SPLIT) ? Text.PART_SPLIT : Text.PART_TURN;
        }

        int countOf(int n, int m, boolean same) {
            if (n == 0 || m == 0) {
                return 0;
            }
            switch (kind) {
                case PLAIN: return n * m;
                case TURN: return turned(n + m - 1, 3);
                case TWICE: return turned(n + m - 1, same ? 2 : 3);
                default: return countOfSize(Math.max(n, m));
            }
        }

        private int countOfSize(int size) {
            return isWithin(size, bySize.length) ? bySize[size] : 0;
        }

        /** COUNT of a size, when those of all lesser sizes are known. */
        private int parted(int size) {
            int half = (size + 1) / 2;
            int third = (size + 2) / 3;
            boolean halves = kind == SPLIT || kind == MIXED && size <= 3 * cut;
            if (size <= cut || kind == THIRDS && size <= 2) {
                return size * size;
            }
            return halves ? 2 * countOfSize(half) + countOfSize(size - half) : 5 * countOfSize(third);
        }

        private static int turned(int places, int turns) {
            int size = 1;
            int exponent = 0;
            while (size < places && size <= LONGEST) {
                size *= 2;
                exponent++;
            }
            return size > LONGEST ? FULL : turns * exponent * size / 2 + size;
        }
    }

    /** A TEXT that was read: for each part what is to be done, with what it is done to ahead of it. */
    private static final class Text {
        static final int PART_PLAIN = 0, PART_SPLIT = 1, PART_TURN = 2, PARTS = 3;
        static final int NAME_N = 0, NAME_M = 1, NAME_SIZE = 2, NAME_CUT = 3, NAME_KIND = 4, NAME_SAME = 5, NAMES = 6;
        // A step of 0 or more is a NUMBER, one of -1 .. -NAMES a NAME.
        static final int OR = -11, AND = -12, NOT = -13, LESS = -14, LIKE = -15;
        static final int PLUS = -16, MINUS = -17, TIMES = -18, NEGATE = -19;

        private final int[] steps = new int[TAPE];
        private int size;
        private final int[] ends = new int[PARTS];
        private int parts;
        private final int[] stack = new int[TAPE];
        private int top;

        void begin() {
            size = 0;
            parts = 0;
        }

        void add(int step) {
            if (size < steps.length) {
                steps[size] = step;
                size++;
            }
        }

        void addName(int name) {
            add(-1 - name);
        }

        void endPart() {
            if (parts < ends.length) {
                ends[parts] = size;
                parts++;
            }
        }

        int worth(int part, int[] names) {
            top = 0;
            if (!isWithin(part, parts)) {
                return 0;
            }
            int end = Math.min(ends[part], size);
            for (int i = part == 0 ? 0 : ends[part - 1]; i < end; i++) {
                doStep(steps[i], names);
            }
            return pop();
        }

        private void push(int number) {
            if (top < stack.length) {
                stack[top] = number;
                top++;
            }
        }

        private int pop() {
            if (top <= 0) {
                return 0;
            }
            top--;
            return stack[top];
        }

        private void doStep(int step, int[] names) {
            if (step >= 0) {
                push(step);
            } else if (isWithin(-1 - step, names.length)) {
                push(names[-1 - step]);
            } else if (step == NOT) {
                push(pop() == 0 ? 1 : 0);
            } else if (step == NEGATE) {
                push(-pop());
            } else {
                int second = pop();
                int first = pop();
                push(ofTwo(step, first, second));
            }
        }

        private static int ofTwo(int step, int a, int b) {
            switch (step) {
                case OR: return a != 0 || b != 0 ? 1 : 0;
                case AND: return a != 0 && b != 0 ? 1 : 0;
                case LESS: return a < b ? 1 : 0;
                case LIKE: return a == b ? 1 : 0;
                case PLUS: return a + b;
                case MINUS: return a - b;
                default: return a * b;
            }
        }
    }

    /** THE TAPE, and the TOKENS that it was cut into. A SIGN's token is its byte. */
    private static final class Tape {
        static final int END = 256, WRONG = 257;
        static final int PLAIN = 260, SPLIT = 261, TURN = 262, OR = 263, AND = 264, NOT = 265;
        static final int FIRST_NAME = 270;
        // A NUMBER's token is the NUMBER and this.
        static final int FIRST_NUMBER = 1000;
        private static final int DIGITS = 4;

        private final byte[] bytes = new byte[TAPE];
        private int size;
        private final int[] tokens = new int[TAPE];
        private final int[] starts = new int[TAPE];
        private int tokenCount;
        private int next;

        int size() {
            return size;
        }

        int token(int i) {
            return i >= 0 && i < tokenCount && i < tokens.length ? tokens[i] : END;
        }

        /** The place of a token's first byte; the size, if there is none. */
        int start(int i) {
            return i >= 0 && i < tokenCount && i < starts.length ? starts[i] : size;
        }

        void wipe() {
            size = 0;
        }

        void append(int n, long from) {
            for (int i = 0; i < n; i++) {
                add((byte) (from >> 8 * i));
            }
        }

        void write(String words) {
            for (int i = 0; i < words.length(); i++) {
                add((byte) words.charAt(i));
            }
        }

        private void add(byte one) {
            if (size < bytes.length) {
                bytes[size] = one;
                size++;
            }
        }

        private int byteAt(int i) {
            return i >= 0 && i < size && i < bytes.length ? bytes[i] : END;
        }

        void cutUp() {
            tokenCount = 0;
            next = 0;
            skipBlanks();
            while (next < size && tokenCount < tokens.length) {
                starts[tokenCount] = next;
                tokens[tokenCount] = readToken();
                tokenCount++;
                skipBlanks();
            }
        }

        private void skipBlanks() {
            while (next < size && (byteAt(next) == ' ' || byteAt(next) == '\n')) {
                next++;
            }
        }

        private int readToken() {
            int first = byteAt(next);
            if (isLetter(first)) {
                return readWord();
            }
            if (isDigit(first)) {
                return readNumber();
            }
            next++;
            return isSign(first) ? first : WRONG;
        }

        private static boolean isLetter(int one) {
            return one >= 'a' && one <= 'z';
        }

        private static boolean isDigit(int one) {
            return one >= '0' && one <= '9';
        }

        private static boolean isSign(int one) {
            switch (one) {
                case '(': case ')': case ';': case '+': case '-': case '*': case '<': case '=': return true;
                default: return false;
            }
        }

        private int readNumber() {
            int from = next;
            int number = 0;
            while (next < size && isDigit(byteAt(next))) {
                number = 10 * number + byteAt(next) - '0';
                next++;
            }
            return next - from > DIGITS ? WRONG : FIRST_NUMBER + number;
        }

        private int readWord() {
            int from = next;
            while (next < size && isLetter(byteAt(next))) {
                next++;
            }
            return keyOrName(from);
        }

        private int keyOrName(int from) {
            if (spells("plain", from)) { return PLAIN; }
            if (spells("split", from)) { return SPLIT; }
            if (spells("turn", from)) { return TURN; }
            if (spells("or", from)) { return OR; }
            if (spells("and", from)) { return AND; }
            if (spells("not", from)) { return NOT; }
            if (spells("n", from)) { return FIRST_NAME + Text.NAME_N; }
            if (spells("m", from)) { return FIRST_NAME + Text.NAME_M; }
            if (spells("size", from)) { return FIRST_NAME + Text.NAME_SIZE; }
            if (spells("cut", from)) { return FIRST_NAME + Text.NAME_CUT; }
            if (spells("kind", from)) { return FIRST_NAME + Text.NAME_KIND; }
            if (spells("same", from)) { return FIRST_NAME + Text.NAME_SAME; }
            return WRONG;
        }

        /** Whether the word from a place on, till the next place, is this one. */
        private boolean spells(String word, int from) {
            if (next - from != word.length()) {
                return false;
            }
            for (int i = 0; i < word.length(); i++) {
                if (byteAt(from + i) != word.charAt(i)) {
                    return false;
                }
            }
            return true;
        }
    }

    /**
     * Reads THE TAPE, when it is cut up, into a TEXT.
     * After a FAULT no token stands any more, so all that is open ends by itself.
     */
    private static final class Grammar {
        private static final int MOST_OPEN = 5;

        private final Tape tape;
        private Text text = new Text();
        private int next;
        private int open;
        private int fault = NONE;

        Grammar(Tape tape) {
            this.tape = tape;
        }

        /** The place of the FAULT, or NONE. */
        int readInto(Text into) {
            text = into;
            text.begin();
            open = 0;
            fault = NONE;
            next = 0;
            part(Tape.PLAIN);
            part(Tape.SPLIT);
            part(Tape.TURN);
            need(Tape.END);
            return fault;
        }

        private void part(int key) {
            need(key);
            either();
            need(';');
            text.endPart();
        }

        private boolean stands(int token) {
            return fault == NONE && tape.token(next) == token;
        }

        private boolean took(int token) {
            if (!stands(token)) {
                return false;
            }
            next++;
            return true;
        }

        private void need(int token) {
            if (stands(token)) {
                next++;
            } else {
                fail();
            }
        }

        private void fail() {
            if (fault == NONE) {
                fault = tape.start(next);
            }
        }

        /**
         * Takes a token that stays open till open is lessened. Where it may not open it is left standing:
         * nothing else begins with it, so it is the FAULT.
         */
        private boolean opened(int token) {
            if (open >= MOST_OPEN || !stands(token)) {
                return false;
            }
            next++;
            open++;
            return true;
        }

        private void either() {
            both();
            for (int i = 0; i < TAPE && took(Tape.OR); i++) {
                both();
                text.add(Text.OR);
            }
        }

        private void both() {
            negated();
            for (int i = 0; i < TAPE && took(Tape.AND); i++) {
                negated();
                text.add(Text.AND);
            }
        }

        private void negated() {
            if (opened(Tape.NOT)) {
                negated();
                text.add(Text.NOT);
                open--;
                return;
            }
            summed();
            if (took('<')) {
                summed();
                text.add(Text.LESS);
            } else if (took('=')) {
                summed();
                text.add(Text.LIKE);
            }
        }

        private void summed() {
            term();
            for (int i = 0; i < TAPE && (stands('+') || stands('-')); i++) {
                int step = stands('+') ? Text.PLUS : Text.MINUS;
                next++;
                term();
                text.add(step);
            }
        }

        private void term() {
            one();
            for (int i = 0; i < TAPE && took('*'); i++) {
                one();
                text.add(Text.TIMES);
            }
        }

        private void one() {
            if (opened('-')) {
                one();
                text.add(Text.NEGATE);
                open--;
            } else if (opened('(')) {
                either();
                need(')');
                open--;
            } else {
                numberOrName();
            }
        }

        private void numberOrName() {
            int token = fault == NONE ? tape.token(next) : Tape.WRONG;
            if (token >= Tape.FIRST_NUMBER) {
                text.add(token - Tape.FIRST_NUMBER);
            } else if (isWithin(token - Tape.FIRST_NAME, Text.NAMES)) {
                text.addName(token - Tape.FIRST_NAME);
            } else {
                fail();
                return;
            }
            next++;
        }
    }

    /** PLACES with their VALUES, and what is made of them. */
    private static final class Places {
        private final Rests rests;
        private final Algebra algebra;
        private final int[] numbers = new int[PLACES];
        private final int[] values = new int[PLACES];
        private int size;
        private final Row filled = new Row(WIDE);
        private final Row nodes = new Row(WIDE);
        private Row factors = new Row(WIDE);
        private Row before = new Row(WIDE);
        private Row kept = new Row(WIDE);

        Places(Rests rests, Algebra algebra) {
            this.rests = rests;
            this.algebra = algebra;
        }

        int size() {
            return size;
        }

        void wipe() {
            size = 0;
        }

        void append(int number) {
            if (size < PLACES) {
                numbers[size] = number;
                values[size] = 0;
                size++;
            }
        }

        int numberOf(int i) {
            return isWithin(i, size) ? numbers[i] : 0;
        }

        int valueOf(int i) {
            return isWithin(i, size) ? values[i] : 0;
        }

        void give(int i, int number) {
            if (isWithin(i, size)) {
                values[i] = number;
            }
        }

        /** How often a PLACE's NUMBER stands ahead of it. */
        private int timesAhead(int place) {
            int many = 0;
            for (int i = 0; i < place; i++) {
                if (numberOf(i) == numberOf(place)) {
                    many++;
                }
            }
            return many;
        }

        boolean hasAlike() {
            for (int i = 0; i < size; i++) {
                if (timesAhead(i) > 0) {
                    return true;
                }
            }
            return false;
        }

        /**
         * FILLED, a PLACE at a time; nodes is the product of x less each NUMBER so far.
         * Adding a multiple of nodes keeps what holds at all PLACES so far.
         */
        Row interpolated() {
            filled.wipe();
            nodes.wipe();
            nodes.set(0, 1);
            for (int i = 0; i < size; i++) {
                int x = numberOf(i);
                int k = timesAhead(i);
                int lacks = rests.rest((long) valueOf(i) - algebra.partMoved(filled, x, k + 1).get(k));
                int step = algebra.partMoved(nodes, x, k + 1).get(k);
                algebra.addMultiple(filled, rests.product(lacks, rests.inverse(step)), nodes, 0);
                nodes.copy(algebra.multiplied(nodes, algebra.lineAt(x)));
            }
            return filled;
        }

        /**
         * The POLY that is PUT RIGHT, if there is one; else any. Of nodes and FILLED, Euclid's first rest
         * below half of n + k is that POLY times its factor, which is 0 where a VALUE is wrong.
         */
        Row nearest(int k) {
            interpolated();
            algebra.euclid(nodes, filled, (size + k + 1) / 2);
            return algebra.lastByFactor();
        }

        int wrongFor(Row row) {
            int wrong = 0;
            for (int i = 0; i < size; i++) {
                if (algebra.evaluated(row, numberOf(i)) != valueOf(i)) {
                    wrong++;
                }
            }
            return wrong;
        }

        /** SIZE of the RELATION, by Massey's way; factors are 1 and then the NUMBERS less 0. */
        int seekRelation() {
            factors.wipe();
            factors.set(0, 1);
            before.copy(factors);
            int found = 0;
            int since = 1;
            int lackedBefore = 1;
            for (int i = 0; i < size; i++, since++) {
                int lacks = lack(i);
                if (lacks == 0) {
                    continue;
                }
                kept.copy(factors);
                int factor = rests.product(lacks, rests.inverse(lackedBefore));
                algebra.addMultiple(factors, -factor, before, since);
                if (2 * found <= i) {
                    found = i + 1 - found;
                    lackedBefore = lacks;
                    since = 0;
                    Row row = before;
                    before = kept;
                    kept = row;
                }
            }
            return found;
        }

        /** By how much the factors so far miss a VALUE. */
        private int lack(int i) {
            long total = 0;
            for (int j = 0; j < factors.length(); j++) {
                total += (long) factors.get(j) * valueOf(i - j);
            }
            return rests.rest(total);
        }

        /** r(j) of the RELATION that was sought just before. */
        int soughtFactor(int j) {
            return rests.rest(-factors.get(j));
        }

        int summed(int power) {
            int total = 0;
            for (int i = 0; i < size; i++) {
                total = rests.rest(total + (long) valueOf(i) * rests.raised(numberOf(i), power));
            }
            return total;
        }
    }

    /** A SHEET: a row of a sort, or missing. */
    private static final class Sheet {
        static final int MISSING = -1, SORTS = 3;
        private static final int BYTES = 0, SHORTS = 1;

        private int sort = MISSING;
        private int size;
        private final int[] items = new int[ITEMS];

        int sort() {
            return sort;
        }

        int size() {
            return size;
        }

        void begin(int newSort, int newSize) {
            sort = newSort;
            size = Math.min(newSize, ITEMS);
            for (int i = 0; i < ITEMS; i++) {
                items[i] = 0;
            }
        }

        int read(int i) {
            return isWithin(i, size) && i < items.length ? items[i] : 0;
        }

        void write(int i, int number) {
            if (!isWithin(i, size) || i >= items.length) {
                return;
            }
            switch (sort) {
                case BYTES: items[i] = (byte) number; break;
                case SHORTS: items[i] = (short) number; break;
                default: items[i] = number; break;
            }
        }
    }
}
