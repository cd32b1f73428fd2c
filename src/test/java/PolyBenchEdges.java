/**
 * The document from its first line to its last: for each sentence that names a boundary a test of its own, under the
 * part of "Terms" or the promise where it stands, and its words. What is due is worked out from those words.
 * What is refused, and what that leaves as it was, stands in PolyBenchRefusals.
 * An object is used for at most 512 calls, so there are many.
 */
public final class PolyBenchEdges {
    private static final int LEAST = Integer.MIN_VALUE, MOST = Integer.MAX_VALUE;
    private static final int PLAIN = 0, SPLIT = 1, THIRDS = 2, TURN = 3, MIXED = 4, TWICE = 5;
    private static final int BAD = -2, STATE = -3, FULL = -4;
    private static final int[] PRIMES = {97, 193, 257, 7681};

    private static int wrong = 0;
    private static String sentence = "";
    private static PolyBench x;

    public static void main(String[] args) {
        whatItIs();
        terms1();
        terms2();
        terms3();
        terms4();
        terms5();
        promises();
        System.out.println(wrong == 0 ? "all edges are as due" : wrong + " answers are not as due");
        if (wrong != 0) {
            System.exit(1);
        }
    }

    // ---- helpers

    private static void edge(String where, String words) {
        edge(where, words, 0);
    }

    private static void edge(String where, String words, int which) {
        sentence = where + ": " + words;
        x = new PolyBench(which);
    }

    /** A new object for the same sentence. */
    private static void anew() {
        x = new PolyBench(0);
    }

    private static void due(String call, long got, long want) {
        if (got != want) {
            wrong++;
            System.out.println(sentence + ": " + call + " answered " + got + ", due is " + want);
        }
    }

    private static void make(int poly, int... numbers) {
        x.clear(poly);
        for (int i = 0; i < numbers.length; i++) {
            x.put(poly, i, numbers[i]);
        }
    }

    /** A NUMBER times x to a power. */
    private static void single(int poly, int power, int number) {
        x.clear(poly);
        x.put(poly, power, number);
    }

    private static void ones(int poly, int length) {
        x.clear(poly);
        for (int i = 0; i < length; i++) {
            x.put(poly, i, 1);
        }
    }

    /** A POLY has these NUMBERS, rests already, the last not 0; all others are 0. */
    private static void is(int poly, int... numbers) {
        due("LENGTH of POLY " + poly, x.at(poly, -1), numbers.length);
        for (int i = 0; i < numbers.length; i++) {
            due("at(" + poly + ", " + i + ")", x.at(poly, i), numbers[i]);
        }
        for (int i = numbers.length; i < 32; i += i < 31 ? 31 - i : 1) {
            due("at(" + poly + ", " + i + ")", x.at(poly, i), 0);
        }
    }

    private static void write(String words) {
        for (int i = 0; i < words.length(); i += 8) {
            int n = Math.min(8, words.length() - i);
            long bytes = 0;
            for (int j = n - 1; j >= 0; j--) {
                bytes = bytes << 8 | words.charAt(i + j);
            }
            x.feed(n, bytes);
        }
    }

    private static void places(int... numbers) {
        x.leave();
        for (int number : numbers) {
            x.place(number);
        }
    }

    private static void values(int... numbers) {
        for (int i = 0; i < numbers.length; i++) {
            x.see(i, numbers[i]);
        }
    }

    private static void everyKind(int cut) {
        for (int kind = 0; kind < 6; kind++) {
            x.way(kind, cut);
        }
    }

    // ---- What it is

    private static void whatItIs() {
        edge("What it is", "An object is used for at most 512 calls");
        for (int call = 1; call <= 512; call++) {
            due("call " + call, x.put(call % 8, call % 32, call), call <= 32 ? 0 : (call - 32) % 97);
        }
        edge("The public face", "NONE = -1, BAD = -2, STATE = -3, FULL = -4; NO = -4611686018427387904");
        due("NONE", PolyBench.NONE, -1);
        due("BAD", PolyBench.BAD, -2);
        due("STATE", PolyBench.STATE, -3);
        due("FULL", PolyBench.FULL, -4);
        due("NO", PolyBench.NO, -4611686018427387904L);
    }

    // ---- Terms, part 1

    private static void terms1() {
        primes();
        numbersThatAreTold();
        polys();
        lengths();
        madeLast();
        longerThan32();
        placesAndValues();
    }

    private static void primes() {
        int[] numbers = {0, 1, 2, 3, 4, 7, -1, -2, -3, -4, -5, LEAST, LEAST + 1, LEAST + 3, MOST, MOST - 3};
        int[] due = {97, 193, 257, 7681, 97, 7681, 7681, 257, 193, 97, 7681, 97, 193, 7681, 7681, 97};
        for (int k = 0; k < numbers.length; k++) {
            edge("Terms 1", "by the constructor's number modulo 4 (from 0): 97, 193, 257, 7681", numbers[k]);
            due("PRIME of " + numbers[k], x.count(0), due[k]);
            x.put(0, 0, due[k] - 1);
            due("the greatest NUMBER", x.at(0, 0), due[k] - 1);
            x.put(0, 0, due[k]);
            due("PRIME as a NUMBER", x.at(0, 0), 0);
        }
    }

    private static void numbersThatAreTold() {
        int[] ofMost = {65, 53, 128, 6624};
        int[] ofLeast = {31, 139, 128, 1056};
        for (int which = 0; which < 4; which++) {
            int p = PRIMES[which];
            edge("Terms 1", "A number that is told may be any; it is taken for its rest, 0 .. PRIME - 1", which);
            int[] told = {0, 1, p - 1, p, p + 1, 2 * p - 1, 2 * p, -1, 1 - p, -p, -p - 1, MOST, LEAST};
            int[] rests = {0, 1, p - 1, 0, 1, p - 1, 0, p - 1, 1, 0, p - 1, ofMost[which], ofLeast[which]};
            make(0, 1);
            make(1, 0, 1);
            for (int k = 0; k < told.length; k++) {
                taken(k, told[k], rests[k]);
            }
        }
    }

    /** Each call that is told a NUMBER takes its rest. POLY 0 is 1, POLY 1 is x, POLY 7 is 0. */
    private static void taken(int k, int told, int rest) {
        x.put(2, 0, told);
        due("put of " + told, x.at(2, 0), rest);
        due("sum with " + told, x.sum(3, 0, told, 7), rest == 0 ? 0 : 1);
        due("sum with " + told, x.at(3, 0), rest);
        due("move by " + told, x.move(3, 1, told), 2);
        due("move by " + told, x.at(3, 0), rest);
        // x less the rest has it as its one ROOT.
        x.put(4, 0, -rest);
        x.put(4, 1, 1);
        due("order of " + told, x.order(4, told), 1);
        x.put(4, 0, 1 - rest);
        due("order of " + told, x.order(4, told), 0);
        due("place of " + told, x.place(told), k);
        due("place of " + told, x.told(k, 0), rest);
        due("see of " + told, x.see(k, told), 0);
        due("see of " + told, x.told(k, 1), rest);
        x.sheet(0, 2, 1);
        x.cell(0, 0, told);
        x.lay(5, 0, 2, 0, 1);
        due("lay of " + told, x.at(5, 0), rest);
    }

    private static void polys() {
        edge("Terms 1", "All are 0 at first");
        for (int poly = 0; poly < 8; poly++) {
            due("LENGTH", x.at(poly, -1), 0);
            for (int i = 0; i < 32; i++) {
                due("at(" + poly + ", " + i + ")", x.at(poly, i), 0);
            }
        }
        edge("Terms 1", "POLYS 0 .. 7 have NUMBERS c(0) .. c(31)", 2);
        for (int k = 0; k < 256; k++) {
            due("put", x.put(k / 32, k % 32, k + 1), 0);
        }
        for (int k = 0; k < 256; k++) {
            due("at", x.at(k / 32, k % 32), k + 1);
        }
    }

    private static void lengths() {
        edge("Terms 1", "LENGTH: 1 more than the greatest i with c(i) not 0 (0: all are 0)");
        due("LENGTH of 0", x.at(0, -1), 0);
        x.put(0, 0, 1);
        due("LENGTH of a NUMBER", x.at(0, -1), 1);
        x.put(0, 31, 1);
        due("LENGTH of all", x.at(0, -1), 32);
        x.put(0, 30, 0);
        due("LENGTH with 0 inside", x.at(0, -1), 32);
        x.put(0, 31, 0);
        due("LENGTH without its LEAD", x.at(0, -1), 1);
        x.put(0, 31, 97);
        due("LENGTH where c(31) is PRIME's rest", x.at(0, -1), 1);
        x.put(0, 7, 5);
        x.put(0, 3, 5);
        due("LENGTH", x.at(0, -1), 8);
        x.put(0, 7, -97);
        due("LENGTH", x.at(0, -1), 4);
        x.put(0, 3, 0);
        due("LENGTH", x.at(0, -1), 1);
        x.put(0, 0, 0);
        due("LENGTH of 0 again", x.at(0, -1), 0);
        edge("Terms 1", "LENGTH, where LEADS go together to 0");
        make(0, 1, 0, 0, 5);
        make(1, 0, 3, 0, -10);
        due("sum", x.sum(2, 0, 2, 1), 2);
        is(2, 2, 3);
        make(1, -2, 0, 0, -10);
        due("sum", x.sum(2, 0, 2, 1), 0);
        is(2);
    }

    private interface Making {
        int make(int to, int a, int b);
    }

    private static void madeLast() {
        edge("Terms 1", "A POLY that is made changes when all else is worked out (to may be one of the others)");
        madeLast("sum", (to, a, b) -> x.sum(to, a, 3, b));
        for (int way = 0; way < 6; way++) {
            int its = way;
            madeLast("times by " + way, (to, a, b) -> x.times(to, a, b, its));
        }
        madeLast("planned", (to, a, b) -> x.planned(to, a, b));
        madeLast("divide", (to, a, b) -> x.divide(to, a, b, false));
        madeLast("divide, rest", (to, a, b) -> x.divide(to, a, b, true));
        madeLast("gcd", (to, a, b) -> x.gcd(to, a, b));
        madeLast("cofactor", (to, a, b) -> x.cofactor(to, a, b));
        madeLast("compose", (to, a, b) -> x.compose(to, a, b));
        madeLast("move", (to, a, b) -> x.move(to, a, 5));
    }

    private static void madeLast(String call, Making making) {
        int[][] which = {{0, 0, 1}, {1, 0, 1}, {0, 0, 0}, {1, 1, 0}, {0, 1, 0}, {7, 0, 1}};
        for (int[] one : which) {
            twoToMake();
            int want = making.make(7, one[1], one[2]);
            int[] numbers = new int[32];
            for (int i = 0; i < 32; i++) {
                numbers[i] = x.at(7, i);
            }
            twoToMake();
            due(call, making.make(one[0], one[1], one[2]), want);
            for (int i = 0; i < 32; i++) {
                due(call + ", at " + i, x.at(one[0], i), numbers[i]);
            }
            // What isn't made stays.
            if (one[0] != 0) {
                is(0, 30, 31, 10, 1);
            }
            if (one[0] != 1) {
                is(1, 15, 8, 1);
            }
        }
    }

    /** (x + 2) (x + 3) (x + 5) and (x + 3) (x + 5). */
    private static void twoToMake() {
        anew();
        make(0, 30, 31, 10, 1);
        make(1, 15, 8, 1);
        everyKind(1);
        make(7, 8, 8, 8, 8, 8, 8, 8, 8, 8);
    }

    private static void longerThan32() {
        edge("Terms 1", "A call that would make one longer than 32 is FULL");
        everyKind(1);
        single(0, 16, 1);
        single(1, 15, 2);
        single(2, 31, 3);
        single(3, 1, 4);
        make(4, 5);
        for (int way = 0; way < 6; way++) {
            x.clear(7);
            x.times(7, 0, 1, way);
            due("times of 17, 16", x.at(7, -1), 32);
            due("times of 17, 17", x.times(7, 0, 0, way), FULL);
            due("times of 17, 17", x.at(7, -1), 32);
            x.clear(7);
            x.times(7, 2, 4, way);
            due("times of 32, 1", x.at(7, -1), 32);
            due("times of 32, 2", x.times(7, 2, 3, way), FULL);
        }
        // SPLIT says 17 + 9, and so is THE PLAN.
        x.clear(7);
        due("planned of 17, 16", x.planned(7, 0, 1), 1);
        due("planned of 17, 16", x.at(7, -1), 32);
        due("planned of 17, 17", x.planned(7, 0, 0), FULL);
        due("planned of 32, 2", x.planned(7, 2, 3), FULL);
        due("compose of 32, 2", x.compose(7, 2, 3), 32);
        due("compose of 17, 17", x.compose(7, 0, 0), FULL);
    }

    private static void placesAndValues() {
        edge("Terms 1", "PLACES (16 at most, numbered from 0 as they come)");
        for (int i = 0; i < 16; i++) {
            due("place", x.place(50 - i), i);
        }
        due("the 17th", x.place(1), FULL);
        due("PLACES", x.count(2), 16);
        for (int i = 0; i < 16; i++) {
            due("NUMBER of PLACE " + i, x.told(i, 0), 50 - i);
        }
        edge("Terms 1", "PLACES are NUMBERS, each with a VALUE (0 at first)");
        for (int i = 0; i < 16; i++) {
            x.place(i);
            due("VALUE of a new one", x.told(i, 1), 0);
            due("VALUE of a new one", x.see(i, 90), 0);
        }
        x.leave();
        for (int i = 0; i < 16; i++) {
            due("numbered from 0 again", x.place(60 + i), i);
            due("VALUE of a new one", x.told(i, 1), 0);
        }
    }

    // ---- Terms, part 2

    private static void terms2() {
        waysAtMost();
        kindsAndCuts();
        sameProduct();
        countOfZero();
        countOfPlain();
        countOfSplit();
        countOfThirds();
        countOfMixed();
        countOfTurn();
        countOfTwice();
        countsOfAllSizes();
        countsTogether();
    }

    private static void waysAtMost() {
        edge("Terms 2", "WAYS (8 at most, numbered from 0)");
        due("WAYS", x.count(1), 0);
        for (int k = 0; k < 8; k++) {
            due("way", x.way(k % 6, 16 - k), k);
            due("WAYS", x.count(1), k + 1);
        }
        due("the 9th", x.way(0, 1), FULL);
        for (int k = 0; k < 8; k++) {
            due("CUT of WAY " + k, x.taken(k, k % 6), 16 - k);
        }
    }

    private static void kindsAndCuts() {
        for (int kind = 0; kind < 6; kind++) {
            edge("Terms 2", "They have a KIND: 0 .. 5; and a CUT (1 .. 16)");
            for (int cut = 0; cut <= 17; cut++) {
                boolean is = cut >= 1 && cut <= 16;
                anew();
                due("way of CUT " + cut, x.way(kind, cut), is ? 0 : BAD);
                due("CUT", x.taken(0, kind), is ? cut : -11);
            }
        }
        due("way of KIND -1", x.way(-1, 1), BAD);
        due("way of KIND 6", x.way(6, 1), BAD);
        edge("Terms 2", "0 PLAIN, 1 SPLIT under PLAIN, 2 THIRDS under SPLIT, 3 TURN under PLAIN, 4 MIXED under THIRDS, "
                + "5 TWICE under TURN");
        everyKind(9);
        String[] under = {"0", "01", "012", "03", "0124", "035"};
        for (int kind = 0; kind < 6; kind++) {
            for (int k = 0; k < 6; k++) {
                boolean is = under[kind].indexOf('0' + k) >= 0;
                due("taken(" + kind + ", " + k + ")", x.taken(kind, k), is ? 9 : -13);
            }
        }
    }

    private static void sameProduct() {
        int[][] lengths = {{0, 0}, {0, 5}, {1, 1}, {1, 32}, {32, 1}, {2, 31}, {16, 17}, {17, 16}, {3, 3}, {7, 20}};
        for (int[] one : lengths) {
            edge("Terms 2", "All make the same product", 3);
            everyKind(1 + one[0] % 4);
            for (int i = 0; i < one[0]; i++) {
                x.put(0, i, 7680 - i * i);
            }
            for (int j = 0; j < one[1]; j++) {
                x.put(1, j, 5000 + 40 * j);
            }
            for (int way = 0; way < 6; way++) {
                x.put(2, 31, 1);
                x.times(2, 0, 1, way);
                for (int i = 0; i < 32; i++) {
                    due("times by " + way + ", at " + i, x.at(2, i), productAt(i, one[0], one[1]));
                }
            }
        }
    }

    private static long productAt(int place, int n, int m) {
        long sum = 0;
        for (int i = 0; i < n; i++) {
            for (int j = 0; j < m; j++) {
                sum += i + j == place ? (7680L - i * i) * (5000 + 40 * j) : 0;
            }
        }
        return sum % 7681;
    }

    private static void countOfZero() {
        edge("Terms 2", "the COUNT of a product of LENGTHS n, m differs (0, if one is 0)");
        everyKind(1);
        single(0, 31, 1);
        make(1, 5);
        for (int way = 0; way < 6; way++) {
            for (int a = 0; a < 2; a++) {
                due("cost of 0 and n by " + way, x.cost(7, a, way), 0);
                due("cost of n and 0 by " + way, x.cost(a, 7, way), 0);
                due("times of 0 and n by " + way, x.times(6, 7, a, way), 0);
                due("times of n and 0 by " + way, x.times(6, a, 7, way), 0);
            }
            due("cost of 0 and 0 by " + way, x.cost(7, 7, way), 0);
            due("cost of 0 and another 0 by " + way, x.cost(7, 6, way), 0);
            due("times of 0 and 0 by " + way, x.times(6, 7, 7, way), 0);
        }
        due("counted()", x.counted(), 0);
    }

    /** COUNT of two POLYS of LENGTHS that aren't one, asked and made. */
    private static void costs(int kind, int cut, int n, int m, int want) {
        anew();
        x.way(kind, cut);
        single(0, n - 1, 1);
        single(1, m - 1, 2);
        String of = " of " + n + ", " + m + " by KIND " + kind + " of CUT " + cut;
        due("cost" + of, x.cost(0, 1, 0), want);
        due("cost" + of + ", turned", x.cost(1, 0, 0), want);
        due("times" + of, x.times(2, 0, 1, 0), n + m - 1 > 32 ? FULL : want);
        due("COUNTED" + of, x.counted(), n + m - 1 > 32 ? 0 : want);
    }

    private static void countOfPlain() {
        edge("Terms 2", "PLAIN: n m");
        for (int cut : new int[] {1, 16}) {
            costs(PLAIN, cut, 1, 1, 1);
            costs(PLAIN, cut, 5, 7, 35);
            costs(PLAIN, cut, 1, 32, 32);
            costs(PLAIN, cut, 16, 17, 272);
            costs(PLAIN, cut, 32, 32, 1024);
        }
    }

    private static void countOfSplit() {
        edge("Terms 2", "S(s) = s s if s is CUT or less (s is the greater one)");
        costs(SPLIT, 1, 1, 1, 1);
        costs(SPLIT, 4, 4, 1, 16);
        costs(SPLIT, 4, 4, 4, 16);
        costs(SPLIT, 4, 3, 2, 9);
        costs(SPLIT, 16, 16, 2, 256);
        costs(SPLIT, 16, 15, 16, 256);
        edge("Terms 2", "else with h = s / 2, rounded up: 2 S(h) + S(s - h)");
        costs(SPLIT, 1, 2, 1, 3);
        costs(SPLIT, 1, 3, 1, 7);
        costs(SPLIT, 1, 4, 1, 9);
        costs(SPLIT, 1, 32, 1, 243);
        costs(SPLIT, 2, 3, 1, 9);
        costs(SPLIT, 4, 5, 1, 22);
        costs(SPLIT, 4, 8, 8, 48);
        costs(SPLIT, 4, 9, 2, 60);
        costs(SPLIT, 16, 17, 16, 226);
        costs(SPLIT, 16, 32, 32, 768);
    }

    private static void countOfThirds() {
        edge("Terms 2", "T(s) = s s if s is CUT or less, or 2 or less");
        costs(THIRDS, 1, 1, 1, 1);
        costs(THIRDS, 1, 2, 1, 4);
        costs(THIRDS, 1, 2, 2, 4);
        costs(THIRDS, 3, 3, 1, 9);
        costs(THIRDS, 16, 16, 1, 256);
        edge("Terms 2", "else 5 T(s / 3, rounded up)");
        costs(THIRDS, 1, 3, 1, 5);
        costs(THIRDS, 2, 3, 1, 5);
        costs(THIRDS, 1, 4, 1, 20);
        costs(THIRDS, 1, 6, 1, 20);
        costs(THIRDS, 1, 7, 1, 25);
        costs(THIRDS, 1, 9, 1, 25);
        costs(THIRDS, 1, 10, 1, 100);
        costs(THIRDS, 3, 4, 1, 20);
        costs(THIRDS, 16, 17, 1, 180);
        costs(THIRDS, 16, 32, 32, 605);
    }

    private static void countOfMixed() {
        edge("Terms 2", "M(s) = s s if s is CUT or less");
        costs(MIXED, 1, 1, 1, 1);
        costs(MIXED, 2, 2, 1, 4);
        costs(MIXED, 16, 16, 16, 256);
        edge("Terms 2", "else 2 M(h) + M(s - h) if s is 3 CUT or less");
        costs(MIXED, 1, 2, 1, 3);
        costs(MIXED, 1, 3, 1, 7);
        costs(MIXED, 2, 3, 1, 9);
        costs(MIXED, 2, 6, 1, 27);
        costs(MIXED, 10, 30, 1, 531);
        costs(MIXED, 11, 32, 1, 576);
        costs(MIXED, 16, 17, 1, 226);
        costs(MIXED, 16, 32, 32, 768);
        edge("Terms 2", "else 5 M(s / 3, rounded up)");
        costs(MIXED, 1, 4, 1, 15);
        costs(MIXED, 1, 9, 1, 35);
        costs(MIXED, 1, 10, 1, 75);
        costs(MIXED, 2, 7, 1, 45);
        costs(MIXED, 10, 31, 1, 485);
        costs(MIXED, 10, 32, 1, 485);
    }

    private static void countOfTurn() {
        int[][] due = {{1, 1, 1}, {2, 1, 5}, {2, 2, 16}, {3, 2, 16}, {3, 3, 44}, {5, 4, 44}, {5, 5, 112}, {9, 8, 112},
            {9, 9, 272}, {16, 16, 272}, {17, 16, 272}, {32, 1, 272}, {17, 17, FULL}, {32, 2, FULL}, {32, 32, FULL}};
        edge("Terms 2", "TURN: with N the least power of two that is n + m - 1 at least, k its exponent: 3 k N / 2 + N; "
                + "FULL if N is above 32");
        for (int[] one : due) {
            costs(TURN, 1, one[0], one[1], one[2]);
            costs(TURN, 16, one[0], one[1], one[2]);
        }
        edge("Terms 2", "FULL if N is above 32 (not if one LENGTH is 0)");
        x.way(TURN, 1);
        x.way(TWICE, 1);
        single(0, 31, 1);
        for (int way = 0; way < 2; way++) {
            due("cost of 32, 0", x.cost(0, 7, way), 0);
            due("cost of 0, 32", x.cost(7, 0, way), 0);
            due("plan of 32, 0", x.plan(0, 7), 0);
            x.put(6, 5, 1);
            due("times of 32, 0", x.times(6, 0, 7, way), 0);
            due("times of 32, 0", x.at(6, -1), 0);
        }
    }

    private static void countOfTwice() {
        int[][] unlike = {{1, 1, 1}, {2, 1, 5}, {2, 2, 16}, {3, 3, 44}, {5, 5, 112}, {9, 9, 272}, {16, 16, 272},
            {17, 16, 272}, {17, 17, FULL}};
        int[][] one = {{1, 1}, {2, 12}, {3, 32}, {4, 32}, {5, 80}, {8, 80}, {9, 192}, {16, 192}, {17, FULL}};
        edge("Terms 2", "TWICE: as TURN, but 2 k N / 2 + N if both POLYS are one (by NUMBERS)");
        for (int[] two : unlike) {
            costs(TWICE, 1, two[0], two[1], two[2]);
        }
        for (int[] both : one) {
            anew();
            x.way(TWICE, 1);
            single(0, both[0] - 1, 3);
            single(1, both[0] - 1, 100);
            due("cost of one of " + both[0], x.cost(0, 0, 0), both[1]);
            due("cost of two with like NUMBERS", x.cost(0, 1, 0), both[1]);
            due("times of two with like NUMBERS", x.times(2, 1, 0, 0), both[1]);
        }
        anew();
        x.way(TWICE, 1);
        make(0, 1, 2, 3);
        int[][] others = {{2, 2, 3}, {1, 3, 3}, {1, 2, 4}, {0, 2, 3}, {1, 0, 3}};
        for (int[] other : others) {
            make(1, other);
            due("cost of two that differ in one NUMBER", x.cost(0, 1, 0), 44);
        }
        make(1, 1, 2, 3, 0);
        due("cost of two that are like", x.cost(0, 1, 0), 32);
        make(1, 1, 2, 3, 1);
        due("cost of two that differ in LENGTH", x.cost(0, 1, 0), 44);
    }

    private static int split(int s, int cut) {
        return s <= cut ? s * s : 2 * split((s + 1) / 2, cut) + split(s / 2, cut);
    }

    private static int thirds(int s, int cut) {
        return s <= cut || s <= 2 ? s * s : 5 * thirds((s + 2) / 3, cut);
    }

    private static int mixed(int s, int cut) {
        if (s <= cut) {
            return s * s;
        }
        return s <= 3 * cut ? 2 * mixed((s + 1) / 2, cut) + mixed(s / 2, cut) : 5 * mixed((s + 2) / 3, cut);
    }

    private static void countsOfAllSizes() {
        for (int cut = 1; cut <= 16; cut++) {
            edge("Terms 2", "S(s), T(s), M(s) for each s and CUT");
            x.way(SPLIT, cut);
            x.way(THIRDS, cut);
            x.way(MIXED, cut);
            make(1, 5);
            for (int s = 1; s <= 32; s++) {
                x.put(0, s - 1, 1);
                due("S(" + s + ") of CUT " + cut, x.cost(0, 1, 0), split(s, cut));
                due("T(" + s + ") of CUT " + cut, x.cost(1, 0, 1), thirds(s, cut));
                due("M(" + s + ") of CUT " + cut, x.cost(0, 0, 2), mixed(s, cut));
            }
        }
    }

    private static void countsTogether() {
        edge("Terms 2", "COUNTED are COUNTS of all products that were made");
        everyKind(1);
        due("COUNTED at first", x.counted(), 0);
        make(0, 1, 2, 3);
        make(1, 4, 5);
        single(2, 31, 1);
        int[] due = {6, 13, 18, 34, 41, 57};
        for (int way = 0; way < 6; way++) {
            x.times(3, 0, 1, way);
            due("COUNTED", x.counted(), due[way]);
            x.times(3, 0, 7, way);
            due("COUNTED with a product of 0", x.counted(), due[way]);
            x.times(3, 2, 1, way);
            x.times(8, 0, 1, way);
            due("COUNTED with what is refused", x.counted(), due[way]);
            x.cost(0, 1, way);
            x.says(way, 0, 1);
            due("COUNTED with what is asked", x.counted(), due[way]);
        }
        due("planned", x.planned(3, 0, 1), 0);
        due("COUNTED", x.counted(), 63);
        due("planned that is FULL", x.planned(3, 2, 1), FULL);
        due("planned of no POLY", x.planned(8, 0, 1), BAD);
        due("COUNTED", x.counted(), 63);
        x.compose(3, 0, 1);
        x.gcd(3, 0, 1);
        x.cofactor(3, 0, 1);
        x.divide(3, 0, 1, true);
        due("COUNTED with what isn't by a WAY", x.counted(), 63);
    }

    // ---- Terms, part 3

    private static void terms3() {
        theTape();
        words();
        numbersOfTexts();
        everyByte();
        blanks();
        partsOfTexts();
        grammar();
        keysAndNames();
        ints();
        truths();
        endsTooEarly();
        opens();
        whatNamesAre();
        partsOfWays();
        textsAtMost();
        firstText();
        thePlan();
    }

    private static void fault(String words, int place) {
        anew();
        write(words);
        due("text() of \"" + words + "\"", x.text(), -100 - place);
        due("TEXTS", x.count(3), 1);
        due("bytes of THE TAPE", x.count(4), 0);
    }

    private static void fits(String words) {
        anew();
        write(words);
        due("text() of \"" + words + "\"", x.text(), 1);
        due("TEXTS", x.count(3), 2);
        due("bytes of THE TAPE", x.count(4), 0);
    }

    /** What an E is for LENGTHS 3 and 2, for each of the parts in turn. */
    private static void worth(String words, int want) {
        String[] texts = {"plain " + words + ";split 1;turn 2;", "plain 1;split " + words + ";turn 2;",
            "plain 1;split 2;turn " + words + ";"};
        int[] kinds = {PLAIN, SPLIT, TURN};
        for (int part = 0; part < 3; part++) {
            anew();
            x.way(kinds[part], 7);
            make(0, 1, 2, 3);
            make(1, 4, 5);
            write(texts[part]);
            due("text() of " + texts[part], x.text(), 1);
            x.force(1);
            due("says of " + texts[part], x.says(0, 0, 1), want);
        }
    }

    private static void theTape() {
        edge("Terms 3", "A TEXT is read from THE TAPE (160 bytes at most)");
        write("plain n;split m;turn 1;");
        for (int size = 24; size <= 160; size++) {
            due("feed", x.feed(1, ' '), size);
        }
        due("feed of one more", x.feed(1, ' '), FULL);
        due("text of 160 bytes", x.text(), 1);
        write("turn 9;");
        due("bytes behind a text", x.count(4), 7);
        due("text", x.text(), -100);
        for (int k = 1; k <= 20; k++) {
            due("feed", x.feed(8, 0x3B6E6E6E6E6E6E6EL), 8 * k);
        }
        due("feed of eight more", x.feed(8, 0), FULL);
        due("feed of one more", x.feed(1, 0), FULL);
        due("text", x.text(), -100);
        edge("Terms 3", "A TEXT of 160 bytes that are all used");
        StringBuilder longest = new StringBuilder("plain n");
        while (longest.length() < 143) {
            longest.append("+1");
        }
        x.way(0, 1);
        write(longest + ";split 1;turn 22;");
        due("bytes", x.count(4), 160);
        due("text", x.text(), 1);
        x.force(1);
        due("says", x.says(0, 0, 0), 68);
    }

    private static void words() {
        edge("Terms 3", "TOKENS, each as long as can be: WORDS (a .. z)");
        fault("plain nm;", 6);
        fault("plain nn;", 6);
        fault("plain sizen;", 6);
        fault("plain notn;", 6);
        fault("plainn;", 0);
        fault("plain n orn;", 8);
        fault("plain n andn;", 8);
        fault("plain nor 1;", 6);
        fault("plain n+mor 1;", 8);
        fault("plain not not;", 13);
        fits("plain 1or 2;split 1and 2;turn not(n);");
        fits("plain n or 1and 2;split(n)or(m);turn(n)and(m);");
        fits("plain1;split2;turn3;");
        edge("Terms 3", "a WORD that is neither KEY nor NAME");
        for (String word : new String[] {"a", "z", "plai", "plains", "spli", "splits", "tur", "turns", "o", "ors", "an",
            "ands", "no", "nots", "siz", "sizes", "cu", "cuts", "kin", "kinds", "sam", "sames", "x", "nots", "mn"}) {
            fault("plain " + word + ";", 6);
            fault("plain n " + word + " m;", 8);
            fault(word + " n;", 0);
        }
    }

    private static void numbersOfTexts() {
        edge("Terms 3", "NUMBERS (as many digits as stand there, 4 at most)");
        worth("0", 0);
        worth("9", 9);
        worth("10", 10);
        worth("109", 109);
        worth("9999", 9999);
        worth("0000", 0);
        worth("0007", 7);
        fault("plain 12 34;", 9);
        fault("plain n12;", 7);
        fault("plain 12n;", 8);
        edge("Terms 3", "a NUMBER that is too long");
        fault("plain 10000;", 6);
        fault("plain 00000;", 6);
        fault("plain 00001;", 6);
        fault("plain n*99999;", 8);
        fault("plain n;split n;turn n+123456789012345678901234567890;", 23);
        fault("plain 1234 12345;", 11);
        fault("12345", 0);
    }

    /** The place of the FAULT of "plain n?m;..", by the byte that stands for ?; -1: there is none. */
    private static int faultBetween(int one) {
        if (one == '+' || one == '-' || one == '*' || one == '<' || one == '=') {
            return -1;
        }
        if (one >= 'a' && one <= 'z') {
            return 6;
        }
        return one == ';' || one == ' ' || one == '\n' ? 8 : 7;
    }

    private static void everyByte() {
        edge("Terms 3", "SIGNS ( ) ; + - * < = ; blanks (32, 10); also of a byte that begins none");
        for (int one = 0; one < 256; one++) {
            int between = faultBetween(one);
            anew();
            write("plain n" + (char) one + "m;split 1;turn 1;");
            due("byte " + one + " between two NAMES", x.text(), between < 0 ? 1 : -100 - between);
            int inside = faultBetween(one) == 6 ? 7 : faultBetween(one);
            anew();
            write("plain 1" + (char) one + "2;split 1;turn 1;");
            boolean digit = one >= '0' && one <= '9';
            due("byte " + one + " between two digits", x.text(), digit || inside < 0 ? 1 : -100 - inside);
            boolean blank = one == ' ' || one == '\n';
            anew();
            write((char) one + "plain n;split 1;turn 1;");
            due("byte " + one + " ahead", x.text(), blank ? 1 : -100);
            anew();
            write("plain n;split 1;turn 1;" + (char) one);
            due("byte " + one + " behind", x.text(), blank ? 1 : -123);
            anew();
            write("plain n;split 1;turn 1+" + (char) one + ";");
            int name = one == 'n' || one == 'm' ? 1 : 0;
            boolean opens = one == '(' || one == '-' || blank;
            due("byte " + one + " for a ONE", x.text(), digit || name == 1 ? 1 : opens ? -124 : -123);
        }
    }

    private static void blanks() {
        edge("Terms 3", "blanks (32, 10) may stand between");
        fits("plain n;split m;turn 1;");
        fits("plain \n  n \n\n*  m  ;\nsplit\n(  n ) ; turn - 1 ;");
        fits("plain\nn\n;\nsplit\nnot\nm\n<\n1\n;\nturn\n1\nor\n2\nand\n3\n;");
        fits("\n plain n;split m;turn 1;\n ");
        fault("pla in n;", 0);
        fault("plain si ze;", 6);
        fault("plain 1 2;", 8);
        fault("plain n o r m;", 8);
        fault("plain n\n m;", 9);
    }

    private static void partsOfTexts() {
        edge("Terms 3", "TEXT: plain E ; split E ; turn E ;");
        fault("split n;split n;turn n;", 0);
        fault("turn n;split n;turn n;", 0);
        fault("n;split n;turn n;", 0);
        fault("; plain n;split n;turn n;", 0);
        fault("plain plain n;split n;turn n;", 6);
        fault("plain;split n;turn n;", 5);
        fault("plain n split n;turn n;", 8);
        fault("plain n;;split n;turn n;", 8);
        fault("plain n;turn n;split n;", 8);
        fault("plain n;plain n;turn n;", 8);
        fault("plain n;n;turn n;", 8);
        fault("plain n;split;turn n;", 13);
        fault("plain n;split n turn n;", 16);
        fault("plain n;split n;split n;", 16);
        fault("plain n;split n;n;", 16);
        fault("plain n;split n;turn;", 20);
        fault("plain n;split n;turn n plain", 23);
        fault("plain n;split n;turn n;;", 23);
        fault("plain n;split n;turn n;plain n;", 23);
        fault("plain n;split n;turn n; n", 24);
        fault("plain n;split n;turn n; 12345", 24);
        fits("plain n;split n;turn n;");
    }

    private static void grammar() {
        edge("Terms 3", "E: AND { or AND }");
        worth("0 or 0 or 0", 0);
        worth("0 or 0 or 5", 1);
        worth("1 or 0 and 0", 1);
        fault("plain or n;", 6);
        fault("plain n or;", 10);
        fault("plain n or or m;", 11);
        fault("plain n or and m;", 11);
        edge("Terms 3", "AND: NOT { and NOT }");
        worth("1 and 2 and 3", 1);
        worth("1 and 2 and 0", 0);
        worth("0 and 0 or 1 and 1", 1);
        fault("plain and n;", 6);
        fault("plain n and;", 11);
        fault("plain n and and m;", 12);
        edge("Terms 3", "NOT: not NOT, or SUM, perhaps < or = and a SUM");
        worth("not n", 0);
        worth("not not n", 1);
        worth("not 2<1", 1);
        worth("not 0=1", 1);
        worth("1<2", 1);
        worth("1+1<2", 0);
        worth("2*2=1+3", 1);
        fault("plain n<;", 8);
        fault("plain n=;", 8);
        fault("plain <n;", 6);
        fault("plain n<m<1;", 9);
        fault("plain n<m=1;", 9);
        fault("plain n=m<1;", 9);
        fault("plain n=m=1;", 9);
        fault("plain n==m;", 8);
        fault("plain n<=m;", 8);
        fault("plain n<not m;", 8);
        fault("plain n=not m;", 8);
        fault("plain not;", 9);
        fault("plain n not m;", 8);
        grammarOfSums();
    }

    private static void grammarOfSums() {
        edge("Terms 3", "SUM: TERM { + or - TERM }");
        worth("9-3-2", 4);
        worth("9-3+2", 8);
        worth("1+2*3", 7);
        worth("(1+2)*3", 9);
        worth("(1<2)+1", 2);
        fault("plain +n;", 6);
        fault("plain n+;", 8);
        fault("plain n++m;", 8);
        fault("plain n-+m;", 8);
        fault("plain n+not m;", 8);
        edge("Terms 3", "TERM: ONE { * ONE }");
        worth("2*3*4", 24);
        worth("2*-3*-4", 24);
        fault("plain *n;", 6);
        fault("plain n*;", 8);
        fault("plain n**m;", 8);
        fault("plain n*not m;", 8);
        edge("Terms 3", "ONE: a NUMBER, a NAME, - ONE, ( E )");
        worth("-3", -3);
        worth("--3", 3);
        worth("2--3", 5);
        worth("-2+3", 1);
        worth("-(2+3)", -5);
        worth("(((7)))", 7);
        worth("(0 or 3)+(not 0)", 2);
        fault("plain -;", 7);
        fault("plain -not n;", 7);
        fault("plain ();", 7);
        fault("plain (n;", 8);
        fault("plain (n m);", 9);
        fault("plain n);", 7);
        fault("plain (n));", 9);
        fault("plain n(m);", 7);
        fault("plain 1(2);", 7);
        fault("plain (n)(m);", 9);
        fault("plain (n,m);", 8);
    }

    private static void keysAndNames() {
        edge("Terms 3", "NAMES are n m size cut kind same; plain, split, turn, or, and, not are KEYS");
        for (String key : new String[] {"plain", "split", "turn", "or", "and"}) {
            fault("plain " + key + ";", 6);
            fault("plain n+" + key + ";", 8);
            fault("plain not " + key + ";", 10);
            fault("plain (" + key + ");", 7);
        }
        fault("plain n+not;", 8);
        for (String name : new String[] {"n", "m", "size", "cut", "kind", "same"}) {
            fits("plain " + name + ";split -" + name + ";turn (" + name + ")*" + name + ";");
            fault(name + " 1;", 0);
            fault("plain 1 " + name + " 2;", 8);
        }
    }

    private static void ints() {
        edge("Terms 3", "An E is an int (32 bits, wrapping)");
        worth("2048*1024*1024", LEAST);
        worth("2048*1024*1024-1", MOST);
        worth("2048*1024*1024-1+1", LEAST);
        worth("0-2048*1024*1024", LEAST);
        worth("-(2048*1024*1024)", LEAST);
        worth("2048*1024*1024*2", 0);
        worth("4096*1024*1024+5", 5);
        // 999700029999 is 233 times 2 to the power 32, less 1027349969.
        worth("9999*9999*9999", -1027349969);
        worth("2048*1024*1024<0", 1);
        worth("2048*1024*1024-1<2048*1024*1024", 0);
        worth("2048*1024*1024=-(2048*1024*1024)", 1);
    }

    private static void truths() {
        edge("Terms 3", "of or, and, not, <, = 1 or 0 (what is not 0 is true)");
        worth("5 or 0", 1);
        worth("0 or 5", 1);
        worth("5 or 7", 1);
        worth("0 or 0", 0);
        worth("-1 or 0", 1);
        worth("2 and 4", 1);
        worth("2 and 1", 1);
        worth("-1 and -1", 1);
        worth("0 and 4", 0);
        worth("4 and 0", 0);
        worth("not 0", 1);
        worth("not 1", 0);
        worth("not 2", 0);
        worth("not -1", 0);
        worth("not not 2", 1);
        worth("2<3", 1);
        worth("3<3", 0);
        worth("4<3", 0);
        worth("-1<0", 1);
        worth("3=3", 1);
        worth("3=-3", 0);
        worth("2048*1024*1024 and 2048*1024*1024*2", 0);
        worth("2048*1024*1024 or 0", 1);
    }

    private static void endsTooEarly() {
        edge("Terms 3", "FAULT: (the text's size, if it ends too early)");
        String whole = "plain(n+-m)*2<3;split not n or m and 1=2;turn 1234;";
        fits(whole);
        for (int size = 0; size < whole.length(); size++) {
            // The start of a WORD is the FAULT, not the end, but for n, which is itself a NAME.
            int word = size;
            while (word > 0 && isLetter(whole.charAt(word - 1)) && isLetter(whole.charAt(size))) {
                word--;
            }
            String start = whole.substring(word, size);
            fault(whole.substring(0, size), start.isEmpty() || start.equals("n") ? size : word);
        }
        fault(" ", 1);
        fault("\n\n ", 3);
        fault("plain ", 6);
        fault("plain n ", 8);
        fault("plain n;split n;turn n \n", 24);
        StringBuilder most = new StringBuilder("plain n;split n;turn n");
        while (most.length() < 160) {
            most.append(' ');
        }
        fault(most.toString(), 160);
    }

    private static boolean isLetter(char one) {
        return one >= 'a' && one <= 'z';
    }

    private static void opens() {
        edge("Terms 3", "a ( , a not, a - ahead of a ONE while 5 of these are open");
        worth("(((((3)))))", 3);
        worth("-----3", -3);
        worth("not not not not not 3", 0);
        worth("not not(-(3))", 1);
        worth("not(not(-3<0))", 1);
        fault("plain ((((((3))))));", 11);
        fault("plain ------3;", 11);
        fault("plain not not not not not not 3;", 26);
        fault("plain (((((-3)))));", 11);
        fault("plain (((((not 3)))));", 11);
        fault("plain -----(3);", 11);
        fault("plain not not not not not -3;", 26);
        fault("plain not not not not not (3);", 26);
        fault("plain not(not(not 3<-3));", 20);
        fault("plain not(-(-(3)));", 13);
        fault("plain ((((((", 11);
        fault("plain ((((((?", 11);
        edge("Terms 3", "a ( till its )");
        worth("(((((3)))))+(((((4)))))", 7);
        worth("((((3)+(4))))", 7);
        worth("(((((3)))))*-----2", -6);
        worth("(((((3))))+((((4)))))", 7);
        fault("plain (((((3))))+(((((3", 21);
        edge("Terms 3", "not and - till what they belong to ends");
        worth("-----3*-----2", 6);
        worth("-----3- -----2", -1);
        worth("not not not not not 3 or not not not not not 0", 1);
        worth("not not not not not 3 and (((((3)))))", 0);
        worth("not not not not 3<-3", 0);
        fault("plain not not not not not 3<-3;", 28);
        fault("plain not not not not not 3=(3);", 28);
        fault("plain not not not not not 3+-3;", 28);
        fault("plain not not not not not 3*(3);", 28);
        worth("not not not not not 3-3 or -----1", 1);
        fits("plain not not not not not 3;split not not not not not 3;turn -----1;");
        edge("Terms 3", "a - between two is none ahead of a ONE");
        worth("(((((3-2)))))", 1);
        worth("not not not not not 3-2", 0);
    }

    private static void whatNamesAre() {
        edge("Terms 3", "Of a WAY and two POLYS: n, m: LENGTHS; size: the greater one; cut, kind; same");
        write("plain n*1000+m;split n*1000+m;turn n*1000+m;");
        write("plain size*100+cut;split size*100+cut;turn size*100+cut;");
        x.text();
        due("nothing is read behind a TEXT", x.count(3), 1);
        write("plain n*1000+m;split n*1000+m;turn n*1000+m;");
        x.text();
        write("plain size*100+cut;split size*100+cut;turn size*100+cut;");
        x.text();
        write("plain kind*10+same;split kind*10+same;turn kind*10+same;");
        x.text();
        for (int kind = 0; kind < 6; kind++) {
            x.way(kind, kind * 3 + 1);
        }
        single(1, 31, 1);
        single(2, 31, 98);
        make(3, 5, 1);
        for (int way = 0; way < 6; way++) {
            x.force(1);
            due("n, m of 0, 32", x.says(way, 0, 1), 32);
            due("n, m of 32, 0", x.says(way, 1, 0), 32000);
            due("n, m of 2, 32", x.says(way, 3, 2), 2032);
            x.force(2);
            due("size, cut of 0, 32", x.says(way, 0, 1), 3201 + 3 * way);
            due("size, cut of 32, 2", x.says(way, 1, 3), 3201 + 3 * way);
            due("size, cut of 0, 0", x.says(way, 0, 7), 1 + 3 * way);
            x.force(3);
            due("kind, same of one", x.says(way, 3, 3), 10 * way + 1);
            due("kind, same of two with like NUMBERS", x.says(way, 1, 2), 10 * way + 1);
            due("kind, same of two that are 0", x.says(way, 0, 7), 10 * way + 1);
            due("kind, same of two unlike", x.says(way, 1, 3), 10 * way);
            due("kind, same of 0 and another", x.says(way, 0, 3), 10 * way);
        }
        // 5 + x and 6 + x, and 5 + 2 x: of one LENGTH.
        make(4, 6, 1);
        make(5, 5, 2);
        due("same, where c(0) differs", x.says(0, 3, 4), 0);
        due("same, where the LEAD differs", x.says(0, 3, 5), 0);
    }

    private static void partsOfWays() {
        edge("Terms 3", "A WAY's part: plain if its KIND is 0; split if it is SPLIT or under it; turn else");
        write("plain 1;split 2;turn 3;");
        x.force(x.text());
        everyKind(16);
        int[] due = {1, 2, 2, 3, 2, 3};
        for (int way = 0; way < 6; way++) {
            due("says of KIND " + way, x.says(way, 0, 0), due[way]);
        }
    }

    private static void textsAtMost() {
        edge("Terms 3", "There are 6 TEXTS at most, TEXT 0 with them");
        x.way(0, 1);
        due("TEXTS", x.count(3), 1);
        for (int k = 1; k <= 5; k++) {
            write("plain " + 11 * k + ";split 1;turn 1;");
            due("text", x.text(), k);
            due("TEXTS", x.count(3), k + 1);
        }
        write("plain 66;split 1;turn 1;");
        due("the 7th", x.text(), FULL);
        due("THE TAPE stays", x.count(4), 24);
        due("TEXTS", x.count(3), 6);
        for (int k = 5; k >= 1; k--) {
            x.force(k);
            due("says of TEXT " + k, x.says(0, 0, 0), 11 * k);
        }
        due("force", x.force(0), 1);
        due("says of TEXT 0", x.says(0, 0, 0), 0);
        due("force of a 7th", x.force(6), BAD);
    }

    private static void firstText() {
        edge("Terms 3", "TEXT 0, at first, and THE RULE, is: plain n * m ; split size * cut + 9 ; turn 80 ;");
        due("THE RULE", x.count(5), 0);
        everyKind(5);
        int[][] lengths = {{0, 0}, {0, 32}, {1, 1}, {3, 2}, {32, 32}};
        for (int[] one : lengths) {
            ones(0, one[0]);
            ones(1, one[1]);
            int size = Math.max(one[0], one[1]);
            int[] due = {one[0] * one[1], 5 * size + 9, 5 * size + 9, 80, 5 * size + 9, 80};
            for (int way = 0; way < 6; way++) {
                due("says of KIND " + way, x.says(way, 0, 1), due[way]);
                due("says of KIND " + way, x.says(way, 1, 0), due[way]);
            }
        }
    }

    private static void rule(String words) {
        write(words);
        x.force(x.text());
    }

    private static void thePlan() {
        edge("Terms 3", "THE PLAN: of the WAYS that aren't FULL for them");
        x.way(TURN, 1);
        x.way(TWICE, 1);
        x.way(PLAIN, 1);
        rule("plain 9;split 9;turn 1;");
        single(0, 16, 1);
        single(1, 15, 1);
        single(2, 31, 1);
        due("plan of 32", x.plan(0, 1), 0);
        due("plan of 33", x.plan(0, 0), 2);
        due("plan of 63", x.plan(2, 2), 2);
        due("plan of 32 and 0", x.plan(2, 7), 0);
        edge("Terms 3", "THE PLAN: the one whose part of THE RULE says least");
        everyKind(1);
        rule("plain 3;split 2;turn 1;");
        due("plan", x.plan(0, 0), 3);
        rule("plain 3;split 1;turn 2;");
        due("plan", x.plan(0, 0), 1);
        rule("plain 0-1;split 0;turn 1;");
        due("plan of one below 0", x.plan(0, 0), 0);
        rule("plain 0;split -1;turn -2;");
        due("plan of two below 0", x.plan(0, 0), 3);
        rule("plain 2048*1024*1024-1;split 2048*1024*1024;turn 0;");
        due("plan of the least int", x.plan(0, 0), 1);
        anew();
        everyKind(1);
        rule("plain 10-kind;split 10-kind;turn 10-kind;");
        due("plan of the last", x.plan(0, 0), 5);
        anew();
        x.way(PLAIN, 1);
        rule("plain 2048*1024*1024-1;split 0;turn 0;");
        due("plan of the greatest int", x.plan(0, 0), 0);
        edge("Terms 3", "THE PLAN: of like ones the least");
        everyKind(1);
        rule("plain 5;split 5;turn 5;");
        due("plan of like ones", x.plan(0, 0), 0);
        rule("plain 6;split 5;turn 5;");
        due("plan of like ones", x.plan(0, 0), 1);
        rule("plain 6;split 6;turn 5;");
        due("plan of like ones", x.plan(0, 0), 3);
    }

    // ---- Terms, part 4

    private static void terms4() {
        quotients();
        divisors();
        cofactors();
        composed();
        movedOnes();
        roots();
        filled();
        filledWithRepeats();
        putRight();
        relations();
        sums();
    }

    private static void quotients() {
        edge("Terms 4", "a is b times QUOTIENT and REST, whose LENGTH is less than b's");
        make(0, 5, 2, 0, 1);
        make(1, 1, 0, 1);
        due("QUOTIENT", x.divide(2, 0, 1, false), 2);
        is(2, 0, 1);
        due("REST", x.divide(2, 0, 1, true), 2);
        is(2, 5, 1);
        due("QUOTIENT of a shorter one", x.divide(2, 1, 0, false), 0);
        is(2);
        due("REST of a shorter one", x.divide(2, 1, 0, true), 3);
        is(2, 1, 0, 1);
        // (3 x^3 + ..) by (x^3 + ..): both have one LENGTH.
        make(3, 1, 0, 7, 3);
        due("QUOTIENT of one LENGTH", x.divide(2, 3, 0, false), 1);
        is(2, 3);
        due("REST of one LENGTH", x.divide(2, 3, 0, true), 3);
        is(2, 83, 91, 7);
        make(4, 2);
        due("QUOTIENT by a NUMBER", x.divide(2, 0, 4, false), 4);
        is(2, 51, 1, 0, 49);
        due("REST by a NUMBER", x.divide(2, 0, 4, true), 0);
        is(2);
        due("QUOTIENT of 0", x.divide(2, 7, 1, false), 0);
        due("REST of 0", x.divide(2, 7, 1, true), 0);
        due("QUOTIENT by itself", x.divide(2, 0, 0, false), 1);
        is(2, 1);
        due("REST by itself", x.divide(2, 0, 0, true), 0);
        ones(5, 32);
        make(6, -1, 1);
        due("QUOTIENT of the longest", x.divide(2, 5, 6, false), 31);
        due("its c(0)", x.at(2, 0), 31);
        due("REST of the longest", x.divide(2, 5, 6, true), 1);
        is(2, 32);
        make(6, 1);
        due("QUOTIENT by 1", x.divide(2, 5, 6, false), 32);
        due("QUOTIENT of the longest by itself", x.divide(2, 5, 5, false), 1);
    }

    private static void divisors() {
        edge("Terms 4", "GCD: the one that divides both, is divided by all that do, and has LEAD 1 (0, if both are 0)");
        make(0, 6, -9, 3);
        make(1, 35, -42, 7);
        due("of 3 (x - 1) (x - 2) and 7 (x - 1) (x - 5)", x.gcd(2, 0, 1), 2);
        is(2, 96, 1);
        due("of 0 and 0", x.gcd(2, 7, 6), 0);
        is(2);
        due("of one 0 with itself", x.gcd(2, 7, 7), 0);
        is(2);
        due("of a and 0", x.gcd(2, 0, 7), 3);
        is(2, 2, 94, 1);
        due("of 0 and b", x.gcd(2, 7, 0), 3);
        is(2, 2, 94, 1);
        due("of one with itself", x.gcd(2, 0, 0), 3);
        is(2, 2, 94, 1);
        make(3, 5);
        due("of a NUMBER and 0", x.gcd(2, 3, 7), 1);
        is(2, 1);
        due("of two NUMBERS", x.gcd(2, 3, 3), 1);
        is(2, 1);
        due("of a NUMBER and b", x.gcd(2, 3, 0), 1);
        is(2, 1);
        make(4, 4, 1);
        due("of two that share nothing", x.gcd(2, 0, 4), 1);
        is(2, 1);
        make(4, -2, 2);
        due("where one divides the other", x.gcd(2, 4, 0), 2);
        is(2, 96, 1);
        due("where one divides the other", x.gcd(2, 0, 4), 2);
        is(2, 96, 1);
        single(5, 31, 9);
        single(6, 30, 8);
        due("of the longest", x.gcd(2, 5, 6), 31);
        due("its LEAD", x.at(2, 30), 1);
        due("of the longest with itself", x.gcd(2, 5, 5), 32);
        due("its LEAD", x.at(2, 31), 1);
    }

    private static void cofactors() {
        edge("Terms 4", "COFACTOR of a: the POLY u of least LENGTH such that b divides u a less GCD");
        make(0, 1, 1);
        make(1, 0, 0, 1);
        due("of 1 + x by x^2: 1 - x", x.cofactor(2, 0, 1), 2);
        is(2, 1, 96);
        due("of x^2 by 1 + x", x.cofactor(2, 1, 0), 1);
        is(2, 1);
        make(3, 0, -1, 1);
        make(4, 0, 0, 2);
        due("of 2 x^2 by x (x - 1): 1 by 2", x.cofactor(2, 4, 3), 1);
        is(2, 49);
        due("of x (x - 1) by 2 x^2", x.cofactor(2, 3, 4), 1);
        is(2, 96);
        due("where b divides a", x.cofactor(2, 1, 1), 0);
        is(2);
        make(5, 7);
        due("where b is a NUMBER", x.cofactor(2, 0, 5), 0);
        is(2);
        due("where both are NUMBERS", x.cofactor(2, 5, 5), 0);
        is(2);
        due("where a is a NUMBER: 1 by 7", x.cofactor(2, 5, 0), 1);
        is(2, 14);
        due("where a is 0", x.cofactor(2, 7, 0), 0);
        is(2);
        make(6, 0, 0, 0, 1);
        due("where a divides b: 1 by a's LEAD", x.cofactor(2, 4, 6), 1);
        is(2, 49);
        single(6, 31, 5);
        due("of 1 + x by x^31", x.cofactor(2, 0, 6), 31);
        due("its LEAD", x.at(2, 30), 1);
        due("ahead of it", x.at(2, 29), 96);
        edge("Terms 4", "(if b is 0: 1 by a's LEAD; 0, if both are)");
        make(0, 8, 0, 2);
        due("where b is 0", x.cofactor(2, 0, 7), 1);
        is(2, 49);
        make(0, 1);
        due("where b is 0 and a is 1", x.cofactor(2, 0, 7), 1);
        is(2, 1);
        single(0, 31, -1);
        due("where b is 0 and a the longest", x.cofactor(2, 0, 7), 1);
        is(2, 96);
        due("where both are 0", x.cofactor(2, 7, 6), 0);
        is(2);
        due("where both are one 0", x.cofactor(2, 7, 7), 0);
        is(2);
    }

    private static void composed() {
        edge("Terms 4", "COMPOSED: a with b in the place of x");
        make(0, 3, 2, 1);
        make(1, 5, 1);
        due("compose", x.compose(2, 0, 1), 3);
        is(2, 38, 12, 1);
        make(3, 4);
        due("with a NUMBER", x.compose(2, 0, 3), 1);
        is(2, 27);
        due("with 0", x.compose(2, 0, 7), 1);
        is(2, 3);
        due("of a NUMBER", x.compose(2, 3, 0), 1);
        is(2, 4);
        due("of a NUMBER with 0", x.compose(2, 3, 7), 1);
        is(2, 4);
        due("of 0", x.compose(2, 7, 0), 0);
        is(2);
        due("of 0 with 0", x.compose(2, 7, 7), 0);
        is(2);
        make(4, -16, 0, 1);
        due("with a ROOT: 0", x.compose(2, 4, 3), 0);
        is(2);
        make(5, 0, 2);
        due("with 0, without c(0)", x.compose(2, 5, 7), 0);
        is(2);
        composedLong();
    }

    private static void composedLong() {
        edge("Promise 18", "compose: FULL: it would be longer than 32");
        single(0, 15, 1);
        make(1, 0, 0, 1);
        due("16 with 3: 31", x.compose(2, 0, 1), 31);
        due("its LEAD", x.at(2, 30), 1);
        due("3 with 16: 31", x.compose(2, 1, 0), 31);
        single(0, 16, 1);
        due("17 with 3: 33", x.compose(2, 0, 1), FULL);
        due("3 with 17: 33", x.compose(2, 1, 0), FULL);
        single(0, 31, 1);
        make(3, 0, 3);
        due("32 with 2: 32", x.compose(2, 0, 3), 32);
        due("2 with 32: 32", x.compose(2, 3, 0), 32);
        due("its LEAD", x.at(2, 31), 3);
        due("32 with 3: 63", x.compose(2, 0, 1), FULL);
        due("32 with 32: 962", x.compose(2, 0, 0), FULL);
        make(4, 5);
        due("32 with 1", x.compose(2, 0, 4), 1);
        due("1 with 32", x.compose(2, 4, 0), 1);
        due("32 with 0", x.compose(2, 0, 7), 0);
        due("0 with 32", x.compose(2, 7, 0), 0);
    }

    private static void movedOnes() {
        edge("Terms 4", "MOVED: a with x and a NUMBER in the place of x");
        make(0, 1, 0, 0, 1);
        due("by 2", x.move(1, 0, 2), 4);
        is(1, 9, 12, 6, 1);
        due("by -2", x.move(1, 1, -2), 4);
        is(1, 1, 0, 0, 1);
        due("by 0", x.move(1, 0, 0), 4);
        is(1, 1, 0, 0, 1);
        due("by PRIME", x.move(1, 0, 97), 4);
        is(1, 1, 0, 0, 1);
        due("by PRIME and 2", x.move(1, 0, 99), 4);
        is(1, 9, 12, 6, 1);
        make(2, 6);
        due("of a NUMBER", x.move(1, 2, 5), 1);
        is(1, 6);
        due("of 0", x.move(1, 7, 5), 0);
        is(1);
        single(3, 31, 1);
        due("of the longest", x.move(1, 3, 1), 32);
        is(1, 1, 31, 77, 33, 37, 64, 51, 2, 6, 80, 79, 45, 75, 35, 45, 51, 51, 45, 35, 75, 45, 79, 80, 6, 2, 51, 64, 37,
                33, 77, 31, 1);
        due("back", x.move(1, 1, 96), 32);
        due("at(1, 30)", x.at(1, 30), 0);
        due("at(1, 0)", x.at(1, 0), 0);
        make(4, -1, 1);
        due("where c(0) goes to 0", x.move(1, 4, 1), 2);
        is(1, 0, 1);
    }

    private static void roots() {
        for (int which = 0; which < 4; which++) {
            int p = PRIMES[which];
            edge("Terms 4", "ROOTS of a POLY that isn't 0: NUMBERS r, rising, at which it is 0", which);
            // x (x + 1) (x - 5): 0, 5 and PRIME - 1
            make(0, 0, -5, -4, 1);
            due("ROOTS", x.root(0, -1), 3);
            due("the least", x.root(0, 0), 0);
            due("the next", x.root(0, 1), 5);
            due("the last", x.root(0, 2), p - 1);
            due("none more", x.root(0, 3), -1);
            make(1, 5);
            due("ROOTS of a NUMBER", x.root(1, -1), 0);
            due("none", x.root(1, 0), -1);
            make(2, 2, 2);
            due("ROOTS of a line", x.root(2, -1), 1);
            due("its ROOT", x.root(2, 0), p - 1);
            single(3, 31, 4);
            due("ROOTS of x^31", x.root(3, -1), 1);
            due("its ROOT", x.root(3, 0), 0);
            manyRoots(p);
        }
        edge("Promise 20", "root: NONE: none such (i below -1, too)");
        make(0, -1, 0, 1);
        for (int i : new int[] {-2, -3, 2, 3, 31, 32, 97, LEAST, MOST}) {
            due("root(0, " + i + ")", x.root(0, i), -1);
        }
    }

    /** The product of x less 3 i for i of 0 .. 30 has 31 ROOTS. */
    private static void manyRoots(int p) {
        edge("Terms 4", "ROOTS, as many as there can be", p == 97 ? 0 : p == 193 ? 1 : p == 257 ? 2 : 3);
        x.way(PLAIN, 1);
        make(0, 1);
        for (int i = 0; i < 31; i++) {
            make(1, -3 * i, 1);
            x.times(0, 0, 1, 0);
        }
        due("LENGTH", x.at(0, -1), 32);
        due("ROOTS", x.root(0, -1), 31);
        for (int i = 0; i < 31; i++) {
            due("ROOT " + i, x.root(0, i), 3 * i);
            due("its ORDER", x.order(0, 3 * i), 1);
            due("ORDER of no ROOT", x.order(0, 3 * i + 1), 0);
        }
        due("none more", x.root(0, 31), -1);
        edge("Terms 4", "their ORDER: how often x less r divides it");
        x.way(PLAIN, 1);
        make(0, 7);
        make(1, -2, 1);
        for (int times = 0; times <= 31; times++) {
            due("ORDER of 2", x.order(0, 2), times);
            due("ORDER of 99", x.order(0, 99), times);
            due("ORDER of -95", x.order(0, -95), times);
            due("ORDER of no ROOT", x.order(0, 3), 0);
            due("ORDER of no ROOT", x.order(0, 0), 0);
            due("ROOTS", x.root(0, -1), times == 0 ? 0 : 1);
            x.times(0, 0, 1, 0);
        }
    }

    private static void filled() {
        edge("Terms 4", "FILLED: the POLY of a LENGTH of at most as many as there are PLACES");
        make(0, 8);
        due("of no PLACES", x.fill(0), 0);
        is(0);
        places(7);
        values(5);
        due("of one PLACE", x.fill(0), 1);
        is(0, 5);
        values(0);
        due("of one PLACE of VALUE 0", x.fill(0), 0);
        is(0);
        places(0, 1);
        make(1, 0, -1, 1);
        x.look(1);
        due("of two PLACES, as x^2 - x", x.fill(0), 0);
        make(1, 0, 0, 1);
        x.look(1);
        due("of two PLACES, as x^2", x.fill(0), 2);
        is(0, 0, 1);
        values(6, 6);
        due("of like VALUES", x.fill(0), 1);
        is(0, 6);
        for (int which = 0; which < 4; which++) {
            edge("Terms 4", "FILLED of 16 PLACES, all unlike", which);
            for (int i = 0; i < 16; i++) {
                x.place(-2 * i);
                x.put(1, i, 50 + 2 * i);
            }
            x.look(1);
            due("fill", x.fill(0), 16);
            for (int i = 0; i < 32; i++) {
                due("at(0, " + i + ")", x.at(0, i), i < 16 ? 50 + 2 * i : 0);
            }
            x.put(1, 16, 1);
            x.look(1);
            x.fill(0);
            due("of one of LENGTH 17", x.at(0, 16), 0);
            x.look(0);
            for (int i = 0; i < 16; i++) {
                due("VALUE " + i, x.told(i, 1), x.value(1, i));
            }
        }
    }

    private static void filledWithRepeats() {
        edge("Terms 4", "where a PLACE's NUMBER x stands for the k-th time (from 0 on, in the order of PLACES), its VALUE "
                + "is NUMBER k of the POLY MOVED by x");
        places(0, 0, 0);
        values(4, 3, 5);
        due("at 0 alone", x.fill(0), 3);
        is(0, 4, 3, 5);
        places(0, 97, -97);
        values(4, 3, 5);
        due("at what is 0 by PRIME", x.fill(0), 3);
        is(0, 4, 3, 5);
        // x^2 MOVED by 1 is 1 + 2 x + x^2, and 4 at 2.
        places(1, 2, 1);
        values(1, 4, 2);
        due("with another between", x.fill(0), 3);
        is(0, 0, 0, 1);
        places(2, 1, 1);
        values(4, 1, 2);
        due("with another ahead", x.fill(0), 3);
        is(0, 0, 0, 1);
        places(1, 1, 2);
        values(2, 1, 4);
        // 2 + (x - 1) + (x - 1)^2, in their order
        due("in the order of PLACES", x.fill(0), 3);
        is(0, 2, 96, 1);
        places(1, 1);
        values(0, 5);
        due("of VALUES 0 and 5", x.fill(0), 2);
        is(0, 92, 5);
        edge("Terms 4", "FILLED of 16 PLACES, all alike");
        for (int i = 0; i < 16; i++) {
            x.place(1);
        }
        x.see(15, 1);
        due("(x - 1)^15", x.fill(0), 16);
        is(0, 96, 15, 89, 67, 90, 93, 39, 33, 64, 58, 4, 7, 30, 8, 82, 1);
        x.see(15, 0);
        x.see(0, 9);
        due("9", x.fill(0), 1);
        is(0, 9);
    }

    private static void putRight() {
        edge("Terms 4", "PUT RIGHT for a LENGTH k (1 .. how many PLACES there are, all unlike)");
        due("for 1 of none", x.right(0, 1), BAD);
        due("for 0 of none", x.right(0, 0), BAD);
        places(4);
        values(7);
        due("for 0 of 1", x.right(0, 0), BAD);
        due("for 1 of 1", x.right(0, 1), 0);
        is(0, 7);
        due("for 2 of 1", x.right(0, 2), BAD);
        places(4, 101);
        due("of 4 and 101, which is 4", x.right(0, 1), STATE);
        for (int i = 0; i < 16; i++) {
            edge("Terms 4", "PUT RIGHT: (all unlike), at 16 PLACES");
            for (int j = 0; j < 15; j++) {
                x.place(j);
            }
            x.place(i);
            due("right where the last is " + i, x.right(0, 1), i < 15 ? STATE : 0);
            due("right for 16", x.right(0, 16), i < 15 ? STATE : 0);
            due("right for 17", x.right(0, 17), BAD);
        }
        edge("Terms 4", "the POLY of LENGTH k at most");
        places(1, 2, 3, 4, 5);
        values(2, 3, 4, 5, 6);
        make(0, 8);
        due("a line for 1", x.right(0, 1), -1);
        is(0, 8);
        for (int k = 2; k <= 5; k++) {
            due("a line for " + k, x.right(0, k), 0);
            is(0, 1, 1);
        }
        values(0, 0, 0, 0, 0);
        for (int k = 1; k <= 5; k++) {
            due("0 for " + k, x.right(0, k), 0);
            is(0);
        }
        halfTheSpare();
        mostFaults();
    }

    private static void halfTheSpare() {
        edge("Terms 4", "VALUES at all PLACES but at most half (cut) of n - k of them");
        places(1, 2, 3, 4);
        values(7, 7, 7, 8);
        due("half of 3 is 1: one", x.right(0, 1), 1);
        is(0, 7);
        values(7, 7, 8, 9);
        due("half of 3 is 1: two", x.right(0, 1), -1);
        is(0, 7);
        values(2, 3, 4, 9);
        due("half of 2 is 1: one", x.right(0, 2), 1);
        is(0, 1, 1);
        values(2, 3, 9, 9);
        due("half of 2 is 1: two", x.right(0, 2), -1);
        values(2, 3, 4, 9);
        due("half of 1 is 0: one", x.right(0, 3), -1);
        due("half of 0 is 0: FILLED", x.right(0, 4), 0);
        due("LENGTH of FILLED", x.at(0, -1), 4);
        places(1, 2, 3, 4, 5);
        values(7, 7, 7, 8, 9);
        due("half of 4 is 2: two", x.right(0, 1), 2);
        is(0, 7);
        values(7, 7, 9, 8, 9);
        due("half of 4 is 2: three", x.right(0, 1), -1);
        places(1, 2);
        values(7, 8);
        due("half of 1 is 0", x.right(0, 1), -1);
        due("half of 0 is 0", x.right(0, 2), 0);
        is(0, 6, 1);
        edge("Promise 29", "how many VALUES were wrong: what is wrong stays with its PLACE");
        places(0, 1, 2);
        values(5, 5, 6);
        due("right", x.right(0, 1), 1);
        due("VALUE", x.told(2, 1), 6);
        due("right again", x.right(0, 1), 1);
        // The PLACE 0 and the VALUE 0 may be what is wrong.
        values(0, 5, 5);
        due("right", x.right(0, 1), 1);
        is(0, 5);
        values(5, 0, 0);
        due("right", x.right(0, 1), 1);
        is(0);
    }

    private static void mostFaults() {
        for (int which = 0; which < 4; which++) {
            for (int k = 1; k <= 16; k++) {
                edge("Terms 4", "PUT RIGHT of 16 PLACES: up to half of 16 - k, and not one more", which);
                for (int i = 0; i < 16; i++) {
                    x.place(6 * i);
                }
                for (int i = 0; i < k; i++) {
                    x.put(1, i, 90 - i);
                }
                x.look(1);
                for (int faults = 0; faults <= (16 - k) / 2; faults++) {
                    due("right for " + k, x.right(0, k), faults);
                    due("LENGTH", x.at(0, -1), k);
                    due("c(0)", x.at(0, 0), 90);
                    due("LEAD", x.at(0, k - 1), 91 - k);
                    int place = (5 * faults + k) % 16;
                    x.see(place, x.told(place, 1) + 1 + faults * faults);
                }
                due("right for " + k + " with one more", x.right(0, k), k == 16 ? 0 : -1);
            }
        }
    }

    /** SIZE and, where they are told, the NUMBERS of the RELATION of a row of VALUES. */
    private static void relation(int[] row, int size, int... numbers) {
        x.leave();
        for (int i = 0; i < row.length; i++) {
            x.place(i % 3);
            x.see(i, row[i]);
        }
        String of = " of " + row.length + " VALUES";
        due("SIZE" + of, x.relation(0), size);
        for (int j = 1; j <= size; j++) {
            due("r(" + j + ")" + of, x.relation(j), j <= numbers.length ? numbers[j - 1] : STATE);
        }
        due("r behind the last" + of, x.relation(size + 1), BAD);
        due("r(-1)" + of, x.relation(-1), BAD);
    }

    private static void relations() {
        edge("Terms 4", "RELATION: its SIZE: the least L such that there are NUMBERS r(1) .. r(L)");
        relation(new int[] {}, 0);
        relation(new int[] {0}, 0);
        relation(new int[16], 0);
        relation(new int[] {5}, 1);
        relation(new int[] {5, 0}, 1, 0);
        relation(new int[] {5, 0, 0, 0}, 1, 0);
        relation(new int[] {5, 10}, 1, 2);
        relation(new int[] {5, 5, 5}, 1, 1);
        relation(new int[] {0, 5}, 2);
        relation(new int[] {0, 0, 5}, 3);
        relation(new int[] {3, 6, 13}, 2);
        edge("Terms 4", "(If 2 L is at most how many VALUES there are, they are told.)");
        relation(new int[] {0, 1, 1}, 2);
        relation(new int[] {0, 1, 1, 2}, 2, 1, 1);
        relation(new int[] {0, 1, 1, 2, 3}, 2, 1, 1);
        relation(new int[] {0, 0, 1, 0, 0}, 3);
        relation(new int[] {0, 0, 1, 0, 0, 4}, 3, 0, 0, 4);
        relation(new int[] {0, 1, 0, 0}, 2, 0, 0);
        relation(new int[] {7, 1, 0, 0}, 2, 0, 0);
        relation(new int[] {1, 2, 3, 4, 5, 6}, 2, 2, 96);
        relation(new int[] {1, 96, 1, 96, 1}, 1, 96);
        edge("Terms 4", "RELATION of 16 VALUES");
        int[] last = new int[16];
        last[15] = 9;
        relation(last, 16);
        int[] eighth = new int[16];
        eighth[7] = 1;
        relation(eighth, 8, 0, 0, 0, 0, 0, 0, 0, 0);
        eighth[15] = 3;
        relation(eighth, 8, 0, 0, 0, 0, 0, 0, 0, 3);
        int[] ninth = new int[16];
        ninth[8] = 1;
        relation(ninth, 9);
        int[] twice = new int[16];
        for (int i = 0; i < 16; i++) {
            twice[i] = i == 0 ? 1 : 2 * twice[i - 1] % 97;
        }
        relation(twice, 1, 2);
        twice[15] = (twice[15] + 1) % 97;
        relation(twice, 15);
    }

    private static void sums() {
        edge("Terms 4", "SUM j: all VALUES, each times its PLACE's NUMBER to the power j, together");
        due("of none, to the power 0", x.power(0), 0);
        due("of none, to the power 999", x.power(999), 0);
        places(3, 96);
        values(5, 96);
        due("to the power 0", x.power(0), 4);
        due("to the power 1", x.power(1), 16);
        due("to the power 2", x.power(2), 44);
        // 3 to the power 999 is 12: its powers come again after 48, and 3^39 is 12 by 97.
        due("to the power 999", x.power(999), 61);
        due("to the power 1000", x.power(1000), BAD);
        due("to the power -1", x.power(-1), BAD);
        edge("Terms 4", "(0 to the power 0 is 1)");
        places(0);
        values(8);
        due("to the power 0", x.power(0), 8);
        due("to the power 1", x.power(1), 0);
        due("to the power 999", x.power(999), 0);
        places(97, 0);
        values(8, 9);
        due("to the power 0", x.power(0), 17);
        int[] due = {18, 121, 128, 6939};
        for (int which = 0; which < 4; which++) {
            edge("Terms 4", "SUM 999 of a 2, and of 16 of the greatest", which);
            places(2);
            values(1);
            due("2 to the power 999", x.power(999), due[which]);
            x.leave();
            for (int i = 0; i < 16; i++) {
                x.place(-1);
                x.see(i, -1);
            }
            due("16 times -1 to the power 999, times -1", x.power(999), 16);
            due("16 times -1 to the power 998, times -1", x.power(998), PRIMES[which] - 16);
        }
    }

    // ---- Terms, part 5

    private static void terms5() {
        edge("Terms 5", "SHEETS 0 .. 3 are rows of numbers, or missing (as all are at first)");
        for (int sheet = 0; sheet < 4; sheet++) {
            due("cell", x.cell(sheet, 0, 1), -11);
            for (int sort = 0; sort < 3; sort++) {
                due("lay", x.lay(0, sheet, sort, 0, 0), -11);
                due("lay", x.lay(0, sheet, sort, 0, 1), -11);
            }
        }
        for (int sheet = 0; sheet < 4; sheet++) {
            due("sheet", x.sheet(sheet, 2, 2), 1);
            due("cell", x.cell(sheet, 0, 10 + sheet), 1);
        }
        for (int sheet = 0; sheet < 4; sheet++) {
            due("lay", x.lay(0, sheet, 2, 0, 2), 1);
            is(0, 10 + sheet);
        }
        due("SHEET 4", x.sheet(4, 2, 2), BAD);
        due("SHEET -1", x.sheet(-1, 2, 2), BAD);
        edge("Terms 5", "of sort 0 bytes, 1 shorts, 2 ints");
        for (int sort = -1; sort < 4; sort++) {
            due("sort " + sort, x.sheet(0, sort, 1), sort < 3 ? 1 : BAD);
        }
        due("sort -2", x.sheet(0, -2, 1), BAD);
    }

    // ---- the promises, where they name an edge of their own

    private static void promises() {
        ofOneNumber();
        ofProducts();
        ofTape();
        ofRules();
        ofPlaces();
        ofSheets();
        ofCells();
        ofLay();
    }

    private static void ofOneNumber() {
        edge("Promise 1", "No WAYS, PLACES");
        int[] due = {97, 0, 0, 1, 0, 0};
        for (int what = 0; what < 6; what++) {
            due("count(" + what + ")", x.count(what), due[what]);
        }
        due("counted()", x.counted(), 0);
        due("cost by WAY 0", x.cost(0, 0, 0), BAD);
        due("taken of WAY 0", x.taken(0, 0), -11);
        due("told of PLACE 0", x.told(0, 0), BAD);
        due("leave", x.leave(), 0);
        edge("Promise 2", "c(i) of a POLY: what it was");
        due("put", x.put(0, 31, 5), 0);
        due("put of the same", x.put(0, 31, 5), 5);
        due("put of 0", x.put(0, 31, 0), 5);
        due("put of PRIME", x.put(0, 31, 97), 0);
        due("put of -1", x.put(0, 31, -1), 0);
        due("put", x.put(0, 31, 1), 96);
        due("put has no LENGTH", x.put(0, -1, 1), BAD);
        due("put has no c(32)", x.put(0, 32, 1), BAD);
        edge("Promise 3", "i = -1: its LENGTH");
        x.put(7, 31, 3);
        due("at(7, -1)", x.at(7, -1), 32);
        due("at(7, 31)", x.at(7, 31), 3);
        due("at(7, 32)", x.at(7, 32), BAD);
        due("at(7, -2)", x.at(7, -2), BAD);
        edge("Promise 4", "A POLY is 0: its LENGTH till then");
        due("clear of 0", x.clear(0), 0);
        ones(0, 32);
        ones(1, 32);
        due("clear of the longest", x.clear(0), 32);
        is(0);
        due("another", x.at(1, -1), 32);
        x.put(1, 0, 0);
        due("clear", x.clear(1), 32);
        due("clear again", x.clear(1), 0);
        edge("Promise 5", "a, times a NUMBER, and b");
        make(0, 1, 2);
        make(1, 4, 5, 6);
        due("times 0", x.sum(2, 0, 0, 1), 3);
        is(2, 4, 5, 6);
        due("times PRIME", x.sum(2, 0, 97, 1), 3);
        is(2, 4, 5, 6);
        due("times -1", x.sum(2, 0, -1, 1), 3);
        is(2, 3, 3, 6);
        due("less itself", x.sum(2, 1, -1, 1), 0);
        is(2);
        due("of 0 and 0", x.sum(2, 7, 5, 6), 0);
        due("0 and b", x.sum(2, 7, 5, 0), 2);
        is(2, 1, 2);
        due("a and 0", x.sum(2, 0, 5, 7), 2);
        is(2, 5, 10);
    }

    private static void ofProducts() {
        edge("Promise 6", "A WAY: its number. BAD; FULL");
        for (int way = 0; way < 8; way++) {
            due("way of KIND 6", x.way(6, 1), BAD);
            due("way of CUT 17", x.way(0, 17), BAD);
            due("way", x.way(5, 16), way);
        }
        due("the 9th", x.way(5, 16), FULL);
        due("the 9th, of CUT 0", x.way(5, 0), BAD);
        due("WAYS", x.count(1), 8);
        edge("Promise 7", "A product by a WAY: its COUNT. BAD; FULL");
        everyKind(16);
        make(0, 5);
        for (int way = -1; way <= 6; way++) {
            boolean is = way >= 0 && way < 6;
            due("times of two NUMBERS by WAY " + way, x.times(1, 0, 0, way), is ? 1 : BAD);
        }
        is(1, 25);
        edge("Promise 8", "COUNT that it would have. BAD; FULL (for TURN, TWICE alone)");
        everyKind(16);
        single(0, 16, 1);
        single(1, 31, 1);
        int[] of33 = {289, 226, 180, FULL, 226, FULL};
        int[] of63 = {1024, 768, 605, FULL, 768, FULL};
        for (int way = 0; way < 6; way++) {
            due("cost of 17, 17 by " + way, x.cost(0, 0, way), of33[way]);
            due("cost of 32, 32 by " + way, x.cost(1, 1, way), of63[way]);
            due("times of 17, 17 by " + way, x.times(2, 0, 0, way), FULL);
            due("times of 32, 32 by " + way, x.times(2, 1, 1, way), FULL);
        }
        is(2);
        ofPlans();
    }

    private static void ofPlans() {
        edge("Promise 9", "THE PLAN. NONE: there is none");
        single(0, 16, 1);
        due("plan without WAYS", x.plan(0, 0), -1);
        due("plan without WAYS, of 0", x.plan(7, 7), -1);
        x.way(TURN, 1);
        due("plan of 33 by TURN alone", x.plan(0, 0), -1);
        due("plan of 17 by TURN alone", x.plan(0, 7), 0);
        x.way(TWICE, 1);
        due("plan of 33 by TURN and TWICE", x.plan(0, 0), -1);
        x.way(MIXED, 1);
        due("plan of 33 by MIXED", x.plan(0, 0), 2);
        edge("Promise 10", "A product by THE PLAN: the WAY. STATE: there is none; FULL");
        single(0, 16, 1);
        single(1, 15, 1);
        due("planned without WAYS", x.planned(2, 0, 1), STATE);
        x.way(TURN, 1);
        due("planned of 33 by TURN alone", x.planned(2, 0, 0), STATE);
        due("planned of 32 by TURN alone", x.planned(2, 0, 1), 0);
        due("LENGTH", x.at(2, -1), 32);
        due("COUNTED", x.counted(), 272);
        x.way(SPLIT, 2);
        due("planned of 33 by SPLIT", x.planned(2, 0, 0), FULL);
        due("planned of 32 by SPLIT", x.planned(2, 0, 1), 1);
        // S(17) of CUT 2: 17 is 9 and 8, 9 is 5 and 4, 5 is 3 and 2: 22, 12; 56; 36
        due("COUNTED", x.counted(), 272 + 148);
        due("planned of 0", x.planned(2, 7, 7), 1);
        due("COUNTED", x.counted(), 272 + 148);
        is(2);
    }

    private static void ofTape() {
        edge("Promise 11", "The n lowest bytes of a number, the lowest first, come behind THE TAPE");
        x.way(0, 1);
        String text = "plain 12;split 34;turn 56;";
        for (int n = 1; n <= 8; n++) {
            anew();
            x.way(0, 1);
            for (int i = 0; i < text.length(); i += n) {
                int many = Math.min(n, text.length() - i);
                // What lies above the n lowest does not come.
                long bytes = many < 8 ? -1L << 8 * many : 0;
                for (int j = 0; j < many; j++) {
                    bytes |= (long) text.charAt(i + j) << 8 * j;
                }
                due("feed of " + many, x.feed(many, bytes), i + many);
            }
            due("text fed by " + n, x.text(), 1);
            x.force(1);
            due("says", x.says(0, 0, 0), 12);
        }
        edge("Promise 11", "BAD: n is not 1 .. 8. FULL");
        int size = 0;
        for (int n = -1; n <= 9; n++) {
            boolean is = n >= 1 && n <= 8;
            size += is ? n : 0;
            due("feed of " + n, x.feed(n, 0), is ? size : BAD);
        }
        for (int n = 8; n >= 1; n--) {
            anew();
            for (int k = 0; k < 160 - n; k++) {
                x.feed(1, ' ');
            }
            due("feed", x.feed(n + 1, -1), n == 8 ? BAD : FULL);
            due("bytes", x.count(4), 160 - n);
            due("feed up to 160", x.feed(n, 0x20202020_20202020L), 160);
            due("feed of one more", x.feed(1, 0), FULL);
            due("text", x.text(), -260);
        }
        edge("Promise 12", "THE TAPE, which is empty then (by a FAULT, too)");
        due("text of nothing", x.text(), -100);
        write("plain 1;split 2;turn 3;");
        due("text", x.text(), 1);
        due("bytes", x.count(4), 0);
        due("text of nothing", x.text(), -100);
        write("plain 1;split 2;turn 3");
        due("text", x.text(), -122);
        due("bytes", x.count(4), 0);
        write(";");
        due("text of what comes next", x.text(), -100);
        write("plain 4;split 5;turn 6;");
        due("text behind FAULTS", x.text(), 2);
        due("THE RULE stays", x.count(5), 0);
        nothingOfAFault();
    }

    private static void nothingOfAFault() {
        edge("Promise 12", "by a FAULT, too: nothing that stood ahead of it is in the next TEXT");
        x.way(PLAIN, 1);
        x.way(SPLIT, 1);
        x.way(TURN, 1);
        StringBuilder most = new StringBuilder("plain 1;split 2");
        while (most.length() < 159) {
            most.append("+1");
        }
        for (int k = 1; k <= 5; k++) {
            for (int times = 0; times < 2; times++) {
                write(most + ";");
                due("text with a FAULT", x.text(), -260);
            }
            write("plain 7+n;split 8;?");
            due("text with a FAULT", x.text(), -118);
            write("plain 10+" + k + ";split 20+" + k + ";turn 30+" + k + ";");
            due("text behind it", x.text(), k);
            x.force(k);
            for (int way = 0; way < 3; way++) {
                due("says of TEXT " + k, x.says(way, 0, 0), 10 * (way + 1) + k);
            }
        }
    }

    private static void ofRules() {
        edge("Promise 13", "A TEXT is THE RULE: which was");
        due("force of TEXT 0", x.force(0), 0);
        due("force of TEXT 1", x.force(1), BAD);
        due("force of TEXT -1", x.force(-1), BAD);
        write("plain 1;split 2;turn 3;");
        x.text();
        due("force of TEXT 1", x.force(1), 0);
        due("force of it again", x.force(1), 1);
        due("force of TEXT 2", x.force(2), BAD);
        due("THE RULE", x.count(5), 1);
        due("force of TEXT 0", x.force(0), 1);
        edge("Promise 14", "What THE RULE says: NO: none such");
        due("says without a WAY", x.says(0, 0, 0), PolyBench.NO);
        x.way(0, 1);
        due("says", x.says(0, 0, 7), 0);
        due("says of WAY 1", x.says(1, 0, 0), PolyBench.NO);
        due("says of WAY -1", x.says(-1, 0, 0), PolyBench.NO);
        due("says of POLY 8", x.says(0, 8, 0), PolyBench.NO);
        due("says of POLY 8", x.says(0, 0, 8), PolyBench.NO);
        due("says of POLY -1", x.says(0, -1, 0), PolyBench.NO);
        due("says of POLY -1", x.says(0, 0, -1), PolyBench.NO);
    }

    private static void ofPlaces() {
        edge("Promise 23", "There are no PLACES: how many there were");
        due("leave of none", x.leave(), 0);
        x.place(5);
        due("leave of 1", x.leave(), 1);
        due("leave again", x.leave(), 0);
        for (int i = 0; i < 16; i++) {
            x.place(i);
        }
        due("leave of 16", x.leave(), 16);
        due("value at PLACE 0", x.value(0, 0), BAD);
        due("see of PLACE 0", x.see(0, 1), BAD);
        due("look", x.look(0), 0);
        due("fill", x.fill(0), 0);
        due("relation", x.relation(0), 0);
        due("power", x.power(0), 0);
        edge("Promise 24", "VALUE of a PLACE: what it was");
        places(4, 4);
        due("see", x.see(1, 5), 0);
        due("see of the same", x.see(1, 5), 5);
        due("see of another", x.see(0, 6), 0);
        due("see of 0", x.see(1, 97), 5);
        due("see of PLACE 2", x.see(2, 1), BAD);
        due("see of PLACE -1", x.see(-1, 1), BAD);
        due("VALUE", x.told(0, 1), 6);
        edge("Promise 25", "Of a PLACE: 0 its NUMBER, 1 its VALUE");
        places(4);
        values(9);
        due("told 0", x.told(0, 0), 4);
        due("told 1", x.told(0, 1), 9);
        due("told 2", x.told(0, 2), BAD);
        due("told -1", x.told(0, -1), BAD);
        due("told of PLACE 1", x.told(1, 0), BAD);
        edge("Promise 26", "What a POLY is at a PLACE");
        places(0, 1, -1);
        single(0, 31, 1);
        x.put(0, 0, 5);
        due("at 0", x.value(0, 0), 5);
        due("at 1", x.value(0, 1), 6);
        due("at PRIME - 1", x.value(0, 2), 4);
        due("at no PLACE", x.value(0, 3), BAD);
        due("of 0", x.value(7, 2), 0);
        due("VALUES stay", x.told(1, 1), 0);
        edge("Promise 27", "VALUES of all PLACES are what a POLY is there: how many");
        make(0, 3, 1);
        due("look at none", x.look(0), 0);
        for (int i = 0; i < 16; i++) {
            x.place(2 * i);
        }
        due("look at 16", x.look(0), 16);
        for (int i = 0; i < 16; i++) {
            due("VALUE", x.told(i, 1), 2 * i + 3);
        }
        due("look of 0", x.look(7), 16);
        due("VALUE", x.told(15, 1), 0);
        edge("Promise 32", "How many: 0 PRIME, 1 WAYS, 2 PLACES, 3 TEXTS, 4 bytes of THE TAPE, 5 THE RULE");
        x.way(0, 1);
        x.way(0, 1);
        places(1, 1, 1, 1);
        write("plain 1;split 2;turn 3;");
        x.text();
        write("plain 1;split 2;turn 3;");
        x.force(x.text());
        write("12345");
        int[] due = {97, 2, 4, 3, 5, 2};
        for (int what = -1; what <= 6; what++) {
            due("count(" + what + ")", x.count(what), what >= 0 && what < 6 ? due[what] : BAD);
        }
    }

    private static void ofSheets() {
        for (int sort = 0; sort < 3; sort++) {
            edge("Promise 34", "A SHEET becomes a row of n of a sort, all 0: n above 40; -14");
            due("sheet of -1", x.sheet(0, sort, -1), -14);
            due("it is missing still", x.cell(0, 0, 1), -11);
            due("sheet of 41", x.sheet(0, sort, 41), BAD);
            due("it is missing still", x.cell(0, 0, 1), -11);
            due("sheet of 0", x.sheet(0, sort, 0), 1);
            due("item 0 of 0", x.cell(0, 0, 1), -12);
            due("sheet of 1", x.sheet(0, sort, 1), 1);
            due("item 0 of 1", x.cell(0, 0, 1), 1);
            due("item 1 of 1", x.cell(0, 1, 1), -12);
            due("sheet of 40", x.sheet(0, sort, 40), 1);
            due("all are 0", x.lay(0, 0, sort, 0, 32), 0);
            due("all are 0", x.lay(0, 0, sort, 8, 32), 0);
            due("item 39 of 40", x.cell(0, 39, 5), 1);
            due("item 40 of 40", x.cell(0, 40, 5), -12);
            due("sheet of 40 again", x.sheet(0, sort, 40), 1);
            due("all are 0 again", x.lay(0, 0, sort, 8, 32), 0);
            x.cell(0, 39, 5);
            x.sheet(0, sort, 2);
            x.sheet(0, sort, 40);
            due("all are 0 again", x.lay(0, 0, sort, 8, 32), 0);
            due("another SHEET is missing still", x.cell(1, 0, 1), -11);
            edge("Promise 34", "or missing (sort -1: n does not matter)");
            for (int n : new int[] {0, 1, -1, 40, 41, LEAST, MOST}) {
                due("sheet", x.sheet(2, sort, 3), 1);
                due("cell", x.cell(2, 1, 1), 1);
                due("sheet that goes missing", x.sheet(2, -1, n), 1);
                due("cell", x.cell(2, 1, 1), -11);
                due("sheet that goes missing again", x.sheet(2, -1, n), 1);
                due("sheet", x.sheet(2, sort, 3), 1);
                due("all are 0", x.lay(0, 2, sort, 0, 3), 0);
            }
        }
    }

    private static void ofCells() {
        // PRIME is 7681: 65536 is 8 times that and 4088.
        int[] numbers = {127, 128, 255, 256, -1, -128, -129, 32767, 32768, 65535, 65536, 65535 + 32769, MOST, LEAST};
        int[] bytes = {127, -128, -1, 0, -1, -128, 127, -1, 0, -1, 0, 0, -1, 0};
        int[] shorts = {127, 128, 255, 256, -1, -128, -129, 32767, -32768, -1, 0, -32768, -1, 0};
        edge("Promise 35", "Item i of a SHEET becomes v (of bytes, shorts its lowest 8, 16 bits)", 3);
        for (int sort = 0; sort < 3; sort++) {
            int[] due = sort == 0 ? bytes : sort == 1 ? shorts : numbers;
            x.sheet(sort, sort, 40);
            for (int k = 0; k < numbers.length; k++) {
                due("cell", x.cell(sort, 39, numbers[k]), 1);
                x.lay(0, sort, sort, 39, 1);
                due("item of sort " + sort + " of " + numbers[k], x.at(0, 0), Math.floorMod(due[k], 7681));
            }
            due("cell again", x.cell(sort, 39, 5), 1);
            due("cell ahead", x.cell(sort, 38, 6), 1);
            due("lay", x.lay(0, sort, sort, 38, 2), 2);
            is(0, 6, 5);
        }
    }

    private static void ofLay() {
        for (int sort = 0; sort < 3; sort++) {
            edge("Promise 36", "n (0 .. 32) items, from one on, are c(0), c(1), .. of a POLY, all others 0: LENGTH");
            x.sheet(1, sort, 40);
            for (int i = 0; i < 40; i++) {
                x.cell(1, i, i + 1);
            }
            ones(0, 32);
            due("the first", x.lay(0, 1, sort, 0, 1), 1);
            is(0, 1);
            ones(0, 32);
            due("the last", x.lay(0, 1, sort, 39, 1), 1);
            is(0, 40);
            due("32 of 40", x.lay(0, 1, sort, 8, 32), 32);
            for (int i = 0; i < 32; i++) {
                due("at", x.at(0, i), i + 9);
            }
            due("33", x.lay(0, 1, sort, 0, 33), BAD);
            due("-1", x.lay(0, 1, sort, 0, -1), BAD);
            due("one beyond", x.lay(0, 1, sort, 9, 32), -12);
            due("one ahead", x.lay(0, 1, sort, -1, 32), -12);
            due("none changes", x.at(0, 31), 40);
            x.cell(1, 2, 0);
            x.cell(1, 3, 97);
            due("with 0 at its end", x.lay(0, 1, sort, 1, 3), 1);
            is(0, 2);
            due("of what is 0", x.lay(0, 1, sort, 2, 2), 0);
            is(0);
            edge("Promise 36", "(n 0: no item is asked, from does not matter)");
            x.sheet(1, sort, 0);
            x.sheet(2, sort, 3);
            for (int sheet = 1; sheet < 3; sheet++) {
                for (int from : new int[] {0, 1, 3, 4, 40, -1, LEAST, MOST}) {
                    x.put(0, 31, 5);
                    due("lay of none from " + from, x.lay(0, sheet, sort, from, 0), 0);
                    is(0);
                }
            }
            due("of an empty one", x.lay(0, 1, sort, 0, 1), -12);
        }
    }
}
