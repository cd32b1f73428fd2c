/**
 * Each promise of the document by answers that were worked out by hand: what is usual, the edges, what is wrong.
 * An object is used for at most 512 calls, so there are many.
 */
public final class PolyBenchPromises {
    private static final int LEAST = Integer.MIN_VALUE, MOST = Integer.MAX_VALUE;
    private static final int PLAIN = 0, SPLIT = 1, THIRDS = 2, TURN = 3, MIXED = 4, TWICE = 5;
    private static final int[] NO_POLYS = {-1, 8, 100, LEAST, MOST};

    private static int wrong = 0;
    private static int promise = 0;
    private static int prime = 0;
    private static PolyBench x;

    public static void main(String[] args) {
        constants();
        newObject();
        put();
        at();
        clear();
        sum();
        way();
        times();
        cost();
        plan();
        planned();
        feed();
        text();
        force();
        says();
        divide();
        gcd();
        cofactor();
        compose();
        move();
        root();
        order();
        place();
        leave();
        see();
        told();
        value();
        look();
        fill();
        right();
        relation();
        power();
        count();
        counted();
        sheet();
        cell();
        lay();
        taken();
        System.out.println(wrong == 0 ? "all promises are kept" : wrong + " answers are not as due");
        if (wrong != 0) {
            System.exit(1);
        }
    }

    // ---- helpers

    private static void begin(int number, int which) {
        promise = number;
        x = new PolyBench(which);
        prime = new int[] {97, 193, 257, 7681}[Math.floorMod(which, 4)];
    }

    private static void due(String call, long got, long want) {
        if (got != want) {
            wrong++;
            System.out.println("promise " + promise + ": " + call + " answered " + got + ", due is " + want);
        }
    }

    /** Makes a POLY of NUMBERS from c(0) on. */
    private static void make(int poly, int... numbers) {
        x.clear(poly);
        for (int i = 0; i < numbers.length; i++) {
            x.put(poly, i, numbers[i]);
        }
    }

    /** A POLY of a LENGTH with all NUMBERS 1. */
    private static void ones(int poly, int length) {
        x.clear(poly);
        for (int i = 0; i < length; i++) {
            x.put(poly, i, 1);
        }
    }

    /** A POLY has these NUMBERS, and 0 from there on. */
    private static void is(int poly, int... numbers) {
        int length = 0;
        for (int i = 0; i < numbers.length; i++) {
            int want = Math.floorMod(numbers[i], prime);
            due("at(" + poly + ", " + i + ")", x.at(poly, i), want);
            length = want != 0 ? i + 1 : length;
        }
        due("at(" + poly + ", -1)", x.at(poly, -1), length);
        if (numbers.length < 32) {
            due("at(" + poly + ", " + numbers.length + ")", x.at(poly, numbers.length), 0);
            due("at(" + poly + ", 31)", x.at(poly, 31), 0);
        }
    }

    private static void write(String words) {
        for (int i = 0; i < words.length(); i += 8) {
            int n = Math.min(8, words.length() - i);
            long bytes = 0;
            for (int j = 0; j < n; j++) {
                bytes |= (long) words.charAt(i + j) << 8 * j;
            }
            x.feed(n, bytes);
        }
    }

    private static void places(int... numbers) {
        x.leave();
        for (int number : numbers) {
            x.place(number);
        }
    }

    private static void values(int... numbers) {
        for (int i = 0; i < numbers.length; i++) {
            x.see(i, numbers[i]);
        }
    }

    private static void allWays(int cut) {
        for (int kind = 0; kind < 6; kind++) {
            x.way(kind, cut);
        }
    }

    // ---- the promises

    private static void constants() {
        promise = 0;
        due("NONE", PolyBench.NONE, -1);
        due("BAD", PolyBench.BAD, -2);
        due("STATE", PolyBench.STATE, -3);
        due("FULL", PolyBench.FULL, -4);
        due("NO", PolyBench.NO, -(1L << 62));
    }

    private static void newObject() {
        int[] numbers = {0, 1, 2, 3, 4, 5, 6, 7, -1, -2, -3, -4, -5, LEAST, LEAST + 1, MOST, MOST - 1};
        int[] primes = {97, 193, 257, 7681, 97, 193, 257, 7681, 7681, 257, 193, 97, 7681, 97, 193, 7681, 257};
        for (int k = 0; k < numbers.length; k++) {
            begin(1, numbers[k]);
            due("PRIME of " + numbers[k], x.count(0), primes[k]);
            due("WAYS", x.count(1), 0);
            due("PLACES", x.count(2), 0);
            due("TEXTS", x.count(3), 1);
            due("bytes", x.count(4), 0);
            due("THE RULE", x.count(5), 0);
            due("counted()", x.counted(), 0);
            for (int poly = 0; poly < 8; poly++) {
                is(poly);
            }
            for (int sheet = 0; sheet < 4; sheet++) {
                due("cell of a missing one", x.cell(sheet, 0, 1), -11);
            }
        }
        begin(1, 0);
        PolyBench other = new PolyBench(0);
        other.put(0, 0, 5);
        due("at() of another object", x.at(0, 0), 0);
        due("leave()", x.leave(), 0);
        due("told(0, 0)", x.told(0, 0), -2);
        due("says(0, 0, 0)", x.says(0, 0, 0), PolyBench.NO);
    }

    private static void put() {
        begin(2, 0);
        due("put", x.put(0, 0, 5), 0);
        due("put", x.put(0, 0, 97 + 6), 5);
        due("put", x.put(0, 0, -1), 6);
        due("put", x.put(0, 0, 97), 96);
        due("put", x.put(0, 0, LEAST), 0);
        due("put", x.put(0, 0, MOST), Math.floorMod(LEAST, 97));
        due("put", x.put(0, 0, 0), Math.floorMod(MOST, 97));
        due("put", x.put(7, 31, 1), 0);
        is(7, 0, 0, 0, 0, 0, 0, 0, 0, 0, 0, 0, 0, 0, 0, 0, 0, 0, 0, 0, 0, 0, 0, 0, 0, 0, 0, 0, 0, 0, 0, 0, 1);
        for (int poly : NO_POLYS) {
            due("put of no POLY", x.put(poly, 0, 1), -2);
        }
        for (int i : new int[] {-1, 32, LEAST, MOST}) {
            due("put of no i", x.put(0, i, 1), -2);
        }
        is(0);
    }

    private static void at() {
        begin(3, 0);
        make(0, 0, 4, 0, 0, 9);
        due("at", x.at(0, 1), 4);
        due("at", x.at(0, 4), 9);
        due("at", x.at(0, 31), 0);
        due("LENGTH", x.at(0, -1), 5);
        x.put(0, 4, 97);
        due("LENGTH", x.at(0, -1), 2);
        x.put(0, 1, 0);
        due("LENGTH", x.at(0, -1), 0);
        x.put(0, 31, 3);
        due("LENGTH", x.at(0, -1), 32);
        for (int poly : NO_POLYS) {
            due("at of no POLY", x.at(poly, 0), -2);
            due("LENGTH of no POLY", x.at(poly, -1), -2);
        }
        for (int i : new int[] {-2, 32, LEAST, MOST}) {
            due("at of no i", x.at(0, i), -2);
        }
    }

    private static void clear() {
        begin(4, 1);
        make(3, 1, 0, 2);
        make(4, 7);
        due("clear", x.clear(3), 3);
        is(3);
        is(4, 7);
        due("clear", x.clear(3), 0);
        for (int poly : NO_POLYS) {
            due("clear of no POLY", x.clear(poly), -2);
        }
    }

    private static void sum() {
        begin(5, 0);
        make(0, 1, 2, 3);
        make(1, 4, 5);
        due("sum", x.sum(2, 0, 10, 1), 3);
        is(2, 14, 25, 30);
        is(0, 1, 2, 3);
        is(1, 4, 5);
        due("sum", x.sum(2, 0, -1, 0), 0);
        is(2);
        due("sum", x.sum(2, 0, 97, 1), 2);
        is(2, 4, 5);
        due("sum", x.sum(2, 0, LEAST, 1), 3);
        int least = Math.floorMod(LEAST, 97);
        is(2, least + 4, 2 * least + 5, 3 * least);
        due("sum to a", x.sum(0, 0, 2, 1), 3);
        is(0, 6, 9, 6);
        due("sum to b", x.sum(1, 0, 2, 1), 3);
        is(1, 16, 23, 12);
        due("sum of one", x.sum(1, 1, 1, 1), 3);
        is(1, 32, 46, 24);
        make(3, 1, 1, 96);
        make(4, 0, 0, 1);
        due("sum that gets shorter", x.sum(5, 3, 1, 4), 2);
        is(5, 1, 1);
        ones(6, 32);
        due("sum of the longest", x.sum(7, 6, 3, 6), 32);
        for (int poly : NO_POLYS) {
            due("sum", x.sum(poly, 0, 1, 0), -2);
            due("sum", x.sum(0, poly, 1, 0), -2);
            due("sum", x.sum(0, 0, 1, poly), -2);
        }
        is(0, 6, 9, 6);
    }

    private static void way() {
        begin(6, 0);
        due("way", x.way(0, 1), 0);
        due("way", x.way(5, 16), 1);
        for (int kind : new int[] {-1, 6, LEAST, MOST}) {
            due("way of no KIND", x.way(kind, 1), -2);
        }
        for (int cut : new int[] {0, -1, 17, LEAST, MOST}) {
            due("way of no CUT", x.way(0, cut), -2);
        }
        due("WAYS", x.count(1), 2);
        for (int k = 2; k < 8; k++) {
            due("way", x.way(k % 6, k), k);
        }
        due("way", x.way(0, 1), -4);
        due("BAD ahead of FULL", x.way(6, 1), -2);
        due("BAD ahead of FULL", x.way(0, 17), -2);
        due("WAYS", x.count(1), 8);
        due("CUT", x.taken(1, 5), 16);
        due("CUT", x.taken(7, 1), 7);
    }

    private static void times() {
        begin(7, 0);
        allWays(1);
        make(0, 1, 2, 3);
        make(1, 4, 5);
        int[] counts = {6, 7, 5, 16, 7, 16};
        for (int way = 0; way < 6; way++) {
            x.clear(2);
            due("times by " + way, x.times(2, 0, 1, way), counts[way]);
            is(2, 4, 13, 22, 15);
        }
        is(0, 1, 2, 3);
        due("counted()", x.counted(), 57);
        due("times to a", x.times(0, 0, 1, 0), 6);
        is(0, 4, 13, 22, 15);
        make(0, 1, 2, 3);
        due("times to b", x.times(1, 0, 1, 0), 6);
        is(1, 4, 13, 22, 15);
        due("times of one to it", x.times(0, 0, 0, 5), 32);
        is(0, 1, 4, 10, 12, 9);
        make(0, 1, 2, 3);
        make(3, 1, 2, 3);
        due("TWICE of two that are one by NUMBERS", x.times(4, 0, 3, 5), 32);
        make(3, 1, 2, 4);
        due("TWICE of two of one LENGTH", x.times(4, 0, 3, 5), 44);
        make(3, 2, 2, 3);
        due("TWICE of two that differ in c(0)", x.times(4, 0, 3, 5), 44);
        long counted = x.counted();
        make(5, 0);
        for (int way = 0; way < 6; way++) {
            x.put(6, 0, 1);
            due("times 0", x.times(6, 0, 5, way), 0);
            is(6);
            ones(6, 32);
            due("0 times the longest", x.times(6, 5, 6, way), 0);
            is(6);
        }
        due("counted()", x.counted(), counted);
        timesFull();
    }

    private static void timesFull() {
        begin(7, 0);
        allWays(1);
        ones(0, 17);
        ones(1, 16);
        make(2, 8);
        // SPLIT: 17 = 9 + 8, 9 = 5 + 4, and 5 says 17, 4 says 9; THIRDS, MIXED: 17, 6, 2
        int[] counts = {272, 2 * (2 * 17 + 9) + 27, 5 * 5 * 4, 272, 5 * 5 * 3, 272};
        for (int way = 0; way < 6; way++) {
            due("times of 32", x.times(2, 0, 1, way), counts[way]);
            due("LENGTH", x.at(2, -1), 32);
            due("at", x.at(2, 15), 16);
            due("at", x.at(2, 31), 1);
        }
        long counted = x.counted();
        make(2, 8);
        ones(3, 32);
        ones(4, 2);
        for (int way = 0; way < 6; way++) {
            due("times of 33", x.times(2, 0, 0, way), -4);
            due("times of 33", x.times(2, 3, 4, way), -4);
            due("times of 63", x.times(2, 3, 3, way), -4);
        }
        is(2, 8);
        due("counted()", x.counted(), counted);
        timesBad();
    }

    private static void timesBad() {
        long counted = x.counted();
        make(2, 8);
        for (int poly : NO_POLYS) {
            due("times", x.times(poly, 2, 2, 0), -2);
            due("times", x.times(2, poly, 2, 0), -2);
            due("times", x.times(2, 2, poly, 0), -2);
        }
        for (int way : new int[] {-1, 6, LEAST, MOST}) {
            due("times by no WAY", x.times(2, 2, 2, way), -2);
            due("BAD ahead of FULL", x.times(2, 3, 3, way), -2);
        }
        due("BAD ahead of FULL", x.times(8, 3, 3, 0), -2);
        is(2, 8);
        due("counted()", x.counted(), counted);
    }

    /** COUNTS of LENGTHS s and 1 by a KIND of a CUT. */
    private static void costs(int kind, int cut, int[] sizes, int[] counts) {
        begin(8, 3);
        x.way(kind, cut);
        for (int k = 0; k < sizes.length; k++) {
            ones(0, sizes[k]);
            ones(1, 1);
            due("cost of " + sizes[k] + " by " + kind + " cut " + cut, x.cost(0, 1, 0), counts[k]);
            due("cost of 1, " + sizes[k] + " by " + kind + " cut " + cut, x.cost(1, 0, 0), counts[k]);
        }
        due("counted()", x.counted(), 0);
    }

    private static void cost() {
        costs(PLAIN, 1, new int[] {1, 2, 7, 32}, new int[] {1, 2, 7, 32});
        costs(SPLIT, 1, new int[] {1, 2, 3, 4, 5, 6, 7, 8, 16, 32}, new int[] {1, 3, 7, 9, 17, 21, 25, 27, 81, 243});
        costs(SPLIT, 4, new int[] {1, 4, 5, 8, 32}, new int[] {1, 16, 22, 48, 432});
        costs(SPLIT, 16, new int[] {16, 17, 32}, new int[] {256, 226, 768});
        costs(THIRDS, 1, new int[] {1, 2, 3, 4, 6, 7, 9, 10, 32}, new int[] {1, 4, 5, 20, 20, 25, 25, 100, 500});
        costs(THIRDS, 2, new int[] {2, 3, 6, 7}, new int[] {4, 5, 20, 25});
        costs(THIRDS, 4, new int[] {4, 5, 12, 13, 32}, new int[] {16, 20, 80, 100, 400});
        costs(MIXED, 1, new int[] {1, 2, 3, 4, 6, 7, 9, 10, 32}, new int[] {1, 3, 7, 15, 15, 35, 35, 75, 375});
        costs(MIXED, 4, new int[] {4, 5, 6, 12, 13}, new int[] {16, 22, 27, 81, 110});
        int[] sizes = {1, 2, 3, 4, 5, 8, 9, 16, 17, 32};
        int[] turns = {1, 5, 16, 16, 44, 44, 112, 112, 272, 272};
        costs(TURN, 1, sizes, turns);
        costs(TURN, 16, sizes, turns);
        // 1 and 1 are one, but with a COUNT of 1 in any case.
        costs(TWICE, 1, sizes, turns);
        begin(8, 3);
        allWays(1);
        int[] same = {1, 12, 32, 32, 80, 80, 80, 80, 192};
        for (int n = 1; n <= 9; n++) {
            ones(0, n);
            ones(1, n);
            due("cost of TWICE " + n, x.cost(0, 0, 5), same[n - 1]);
            due("cost of TWICE " + n, x.cost(0, 1, 5), same[n - 1]);
        }
        ones(0, 16);
        due("cost of TWICE 16", x.cost(0, 0, 5), 192);
        due("cost of PLAIN 16", x.cost(0, 0, 0), 256);
        costFull();
        costBad();
    }

    private static void costFull() {
        ones(0, 17);
        ones(1, 16);
        ones(2, 32);
        make(3, 0);
        due("cost of 32 by TURN", x.cost(0, 1, 3), 272);
        due("cost of 33 by TURN", x.cost(0, 0, 3), -4);
        due("cost of 33 by TWICE", x.cost(0, 0, 5), -4);
        due("cost of 63 by TURN", x.cost(2, 2, 3), -4);
        due("cost of 63 by PLAIN", x.cost(2, 2, 0), 1024);
        due("cost of 63 by SPLIT", x.cost(2, 2, 1), 243);
        due("cost of 63 by THIRDS", x.cost(2, 2, 2), 500);
        due("cost of 63 by MIXED", x.cost(2, 2, 4), 375);
        for (int way = 0; way < 6; way++) {
            due("cost of 32 and 0", x.cost(2, 3, way), 0);
            due("cost of 0 and 32", x.cost(3, 2, way), 0);
            due("cost of 0 and 0", x.cost(3, 3, way), 0);
        }
    }

    private static void costBad() {
        for (int poly : NO_POLYS) {
            due("cost", x.cost(poly, 0, 0), -2);
            due("cost", x.cost(0, poly, 0), -2);
        }
        for (int way : new int[] {-1, 6, LEAST, MOST}) {
            due("cost by no WAY", x.cost(2, 2, way), -2);
        }
        due("counted()", x.counted(), 0);
    }

    private static void plan() {
        begin(9, 0);
        due("plan of no WAY", x.plan(0, 1), -1);
        for (int poly : NO_POLYS) {
            due("BAD ahead of NONE", x.plan(poly, 0), -2);
            due("BAD ahead of NONE", x.plan(0, poly), -2);
        }
        x.way(TURN, 1);
        x.way(SPLIT, 3);
        x.way(PLAIN, 1);
        x.way(PLAIN, 2);
        x.way(MIXED, 2);
        ones(0, 3);
        ones(1, 2);
        // 80; 3 * 3 + 9; 6; 6; 3 * 2 + 9
        due("plan", x.plan(0, 1), 2);
        ones(0, 10);
        // 80; 39; 100; 100; 29
        due("plan", x.plan(0, 0), 4);
        ones(0, 16);
        // 80; 57; 256; 256; 41
        due("plan", x.plan(0, 0), 4);
        due("plan of 0: n m is least", x.plan(2, 2), 2);
        begin(9, 0);
        x.way(TWICE, 1);
        x.way(TURN, 1);
        ones(0, 17);
        due("plan where all are FULL", x.plan(0, 0), -1);
        ones(1, 16);
        due("plan of like ones", x.plan(0, 1), 0);
        ones(2, 32);
        due("plan of 0 and 32", x.plan(2, 3), 0);
        x.way(PLAIN, 1);
        due("plan of 33: PLAIN isn't FULL", x.plan(0, 0), 2);
        due("plan of 272: TURN", x.plan(0, 1), 0);
        due("counted()", x.counted(), 0);
        write("plain 5;split 1;turn 0-1*5;");
        x.force(x.text());
        due("plan of what is below 0", x.plan(0, 1), 0);
        write("plain 0-10;split 1;turn 0-5;");
        x.force(x.text());
        due("plan of what is below 0", x.plan(0, 1), 2);
        for (int poly : NO_POLYS) {
            due("plan", x.plan(poly, 0), -2);
            due("plan", x.plan(0, poly), -2);
        }
    }

    private static void planned() {
        begin(10, 0);
        make(0, 1, 2, 3);
        make(1, 4, 5);
        make(2, 8);
        due("planned of no WAY", x.planned(2, 0, 1), -3);
        x.way(TURN, 1);
        x.way(PLAIN, 1);
        x.way(SPLIT, 1);
        due("planned", x.planned(2, 0, 1), 1);
        is(2, 4, 13, 22, 15);
        due("counted()", x.counted(), 6);
        due("planned to a", x.planned(0, 0, 1), 1);
        is(0, 4, 13, 22, 15);
        due("counted()", x.counted(), 12);
        ones(0, 17);
        ones(1, 16);
        // 80; 272; 17 + 9
        due("planned by SPLIT", x.planned(2, 0, 1), 2);
        due("at", x.at(2, 15), 16);
        due("counted()", x.counted(), 12 + 113);
        make(2, 8);
        due("planned of 33", x.planned(2, 0, 0), -4);
        is(2, 8);
        due("counted()", x.counted(), 12 + 113);
        due("planned of 0", x.planned(2, 0, 3), 1);
        is(2);
        due("counted()", x.counted(), 12 + 113);
        for (int poly : NO_POLYS) {
            due("planned", x.planned(poly, 0, 0), -2);
            due("planned", x.planned(0, poly, 0), -2);
            due("planned", x.planned(0, 0, poly), -2);
        }
        begin(10, 0);
        due("BAD ahead of STATE", x.planned(8, 0, 0), -2);
        x.way(TURN, 1);
        ones(0, 17);
        make(2, 8);
        due("STATE ahead of FULL", x.planned(2, 0, 0), -3);
        is(2, 8);
        due("counted()", x.counted(), 0);
    }

    private static void feed() {
        begin(11, 0);
        for (int n : new int[] {0, -1, 9, LEAST, MOST}) {
            due("feed of no n", x.feed(n, 1), -2);
        }
        due("bytes", x.count(4), 0);
        // The lowest byte comes first; what is above the n-th does not come.
        due("feed", x.feed(3, 0x7777_77616C70L), 3);
        due("feed", x.feed(8, 0x3B31206E69L | 0x73L << 40 | 0x70L << 48 | 0x6CL << 56), 11);
        due("feed", x.feed(2, 0x7469L), 13);
        write(" 2;turn 3;");
        due("bytes", x.count(4), 23);
        due("text", x.text(), 1);
        for (int k = 1; k <= 19; k++) {
            due("feed", x.feed(8, -1), 8 * k);
        }
        due("feed", x.feed(7, 0), 159);
        due("feed of too many", x.feed(2, 0), -4);
        due("feed of too many", x.feed(8, 0), -4);
        due("BAD ahead of FULL", x.feed(9, 0), -2);
        due("bytes", x.count(4), 159);
        due("feed", x.feed(1, 0), 160);
        due("feed of too many", x.feed(1, 0), -4);
        due("BAD ahead of FULL", x.feed(0, 0), -2);
        due("text", x.text(), -100);
        due("feed", x.feed(1, 0), 1);
    }

    private static void fault(String words, int place) {
        write(words);
        due("text() of \"" + words + "\"", x.text(), -100 - place);
        due("bytes of THE TAPE", x.count(4), 0);
    }

    private static void fits(String words) {
        begin(promise, 0);
        write(words);
        due("text() of \"" + words + "\"", x.text(), 1);
        due("bytes of THE TAPE", x.count(4), 0);
    }

    private static void text() {
        begin(12, 0);
        textsThatEndEarly();
        textsWithFaults();
        textsThatOpenTooMuch();
        textsThatFit();
        begin(12, 0);
        for (int k = 1; k < 6; k++) {
            fault("plain n;split ", 14);
            due("TEXTS", x.count(3), k);
            write("plain n;split " + k + ";turn m;");
            due("text", x.text(), k);
            due("TEXTS", x.count(3), k + 1);
        }
        due("text of nothing, when there are 6", x.text(), -4);
        write("plain n;");
        due("text with a FAULT, when there are 6", x.text(), -4);
        write("split 1;turn 1;");
        due("text, when there are 6", x.text(), -4);
        due("THE TAPE stays", x.count(4), 23);
        due("TEXTS", x.count(3), 6);
        due("force", x.force(5), 0);
    }

    private static void textsThatEndEarly() {
        fault("", 0);
        fault(" ", 1);
        fault(" \n ", 3);
        fault("plain", 5);
        fault("plain ", 6);
        fault("plain n", 7);
        fault("plain n \n", 9);
        fault("plain n ;", 9);
        fault("plain n*", 8);
        fault("plain (", 7);
        fault("plain not", 9);
        fault("plain n or", 10);
        fault("plain n;split n;turn n", 22);
        fault("plain n;split n;turn n  ", 24);
    }

    private static void textsWithFaults() {
        fault("split n;split n;turn n;", 0);
        fault("  split", 2);
        fault("Plain n;", 0);
        fault("plainn;", 0);
        fault("plai n;", 0);
        fault("n;", 0);
        fault("; plain n;", 0);
        fault("plain split n;", 6);
        fault("plain turn;", 6);
        fault("plain or n;", 6);
        fault("plain n;turn n;split n;", 8);
        fault("plain n;split n;turn n;;", 23);
        fault("plain n;split n;turn n; n", 24);
        fault("plain n;split n;turn n; plain", 24);
        fault("plain n;split n;turn n; ?", 24);
        fault("plain n;split n;turn n;x", 23);
        fault("plain n;split n;turn n;12345", 23);
        fault("plain n;split n;or n;", 16);
        fault("plain n turn m;", 8);
        fault("plain n split m;", 8);
        fault("plain n;split n;plain n;", 16);
        fault("plain n m;", 8);
        fault("plain n 1;", 8);
        fault("plain n1;", 7);
        fault("plain 1n;", 7);
        fault("plain nm;", 6);
        fault("plain sizes;", 6);
        fault("plain siz;", 6);
        fault("plain N;", 6);
        fault("plain x;", 6);
        fault("plain 12345;", 6);
        fault("plain n+00000;", 8);
        fault("plain 1234567890123456789012345678901234567890;", 6);
        fault("plain 1234 5;", 11);
        fault("plain n\t;", 7);
        fault("plain n\r;", 7);
        fault("plain n,", 7);
        fault("plain n>m;", 7);
        fault("plain n" + (char) 0 + ";", 7);
        fault("plain " + (char) 233 + ";", 6);
        fault("plain n" + (char) 255, 7);
        fault("plain n+;", 8);
        fault("plain n+*m;", 8);
        fault("plain *n;", 6);
        fault("plain +n;", 6);
        fault("plain ;", 6);
        fault("plain );", 6);
        fault("plain ();", 7);
        fault("plain (n;", 8);
        fault("plain (n n);", 9);
        fault("plain n);", 7);
        fault("plain (n));", 9);
        fault("plain n(m);", 7);
        fault("plain n=;", 8);
        fault("plain <n;", 6);
        fault("plain n<<m;", 8);
        fault("plain n<m<1;", 9);
        fault("plain n<m=1;", 9);
        fault("plain n=m<1;", 9);
        fault("plain n<not m;", 8);
        fault("plain n+not m;", 8);
        fault("plain n*not m;", 8);
        fault("plain -not n;", 7);
        fault("plain n not m;", 8);
        fault("plain n or or m;", 11);
        fault("plain n and or m;", 12);
        fault("plain and n;", 6);
        fault("plain n or;", 10);
        fault("plain n;split n;turn plain;", 21);
    }

    private static void textsThatOpenTooMuch() {
        fault("plain ((((((n", 11);
        fault("plain not not not not not not n", 26);
        fault("plain ------n", 11);
        fault("plain -----(n", 11);
        fault("plain (((((-n", 11);
        fault("plain (((((not n", 11);
        fault("plain not(not(not -n", 18);
        fault("plain not(-(-(n", 13);
        fault("plain not not not not not n<-m", 28);
        fault("plain not not not not not n*(m", 28);
        fault("plain not(n and not(m<-(n", 23);
        fault("plain n;split n;turn (((((n)))))+((((((n", 38);
        // The one that is too many is told though what comes later is wrong, too.
        fault("plain ((((((?", 11);
        // A - between two is none ahead of a ONE.
        fault("plain (((((n-m)))))?", 19);
    }

    private static void textsThatFit() {
        fits("plain n;split n;turn n;");
        fits(" \n plain\nn\n;split n;turn n;\n ");
        fits("plain1;split2;turn3;");
        fits("plain(n)split".replace("split", ";split(n);turn(n);"));
        fits("plain-n;split-n;turn-n;");
        fits("plain not n;split not not n;turn not not not not not n;");
        fits("plain (((((n)))));split -----n;turn -(-(-n));");
        fits("plain (((((n)))))+(((((m)))));split -----n*-----m;turn n- -----m;");
        fits("plain not not not not not n and -----m;split not not not not not n or (((((m)))));turn 1;");
        fits("plain not(not(not n)) and not(not(not m));split 1;turn 1;");
        fits("plain n<m and n=m or not n<m;split 9999;turn 0000;");
        fits("plain (n<m)<m;split (not n)+1;turn (n or m)*-(n and m);");
        fits("plain n+m+size+cut+kind+same;split n*m*size*cut*kind*same;turn n-m-size-cut-kind-same;");
    }

    private static void force() {
        begin(13, 0);
        for (int text : new int[] {1, -1, 6, LEAST, MOST}) {
            due("force of no TEXT", x.force(text), -2);
        }
        x.way(0, 1);
        due("force", x.force(0), 0);
        write("plain 1;split 2;turn 3;");
        due("text", x.text(), 1);
        due("THE RULE stays", x.count(5), 0);
        write("plain 4;split 5;turn 6;");
        due("text", x.text(), 2);
        due("force", x.force(2), 0);
        due("THE RULE", x.count(5), 2);
        due("says", x.says(0, 0, 0), 4);
        due("force", x.force(1), 2);
        due("says", x.says(0, 0, 0), 1);
        due("force of no TEXT", x.force(3), -2);
        due("THE RULE", x.count(5), 1);
        due("force", x.force(0), 1);
        due("says", x.says(0, 0, 0), 0);
        write("plain n*n;split m ?");
        x.text();
        due("force of a TEXT with a FAULT", x.force(3), -2);
        write("plain 7;split 8;turn 9;");
        due("text behind one with a FAULT", x.text(), 3);
        due("force", x.force(3), 0);
        due("says", x.says(0, 0, 0), 7);
    }

    /** What an E is for LENGTHS 3 and 2 and a WAY 0 of KIND 0 and CUT 7. */
    private static void worth(String words, int want) {
        begin(promise, 0);
        x.way(0, 7);
        make(0, 1, 2, 3);
        make(1, 4, 5);
        write("plain " + words + ";split 1;turn 1;");
        x.force(x.text());
        due("says of " + words, x.says(0, 0, 1), want);
    }

    private static void says() {
        begin(14, 0);
        allWays(3);
        make(0, 1, 2, 3);
        make(1, 4, 5);
        long[] first = {6, 18, 18, 80, 18, 80};
        for (int way = 0; way < 6; way++) {
            due("says of TEXT 0", x.says(way, 0, 1), first[way]);
            due("says of TEXT 0", x.says(way, 1, 0), first[way]);
        }
        write("plain n;split m+10*kind+100*size;turn cut+10*same;");
        x.force(x.text());
        due("says", x.says(0, 0, 1), 3);
        due("says", x.says(0, 1, 0), 2);
        due("says", x.says(1, 1, 0), 313);
        due("says", x.says(2, 0, 1), 322);
        due("says", x.says(4, 0, 1), 342);
        due("says", x.says(3, 0, 1), 3);
        due("says", x.says(3, 0, 0), 13);
        make(2, 1, 2, 3);
        make(3, 1, 2, 4);
        due("says", x.says(5, 0, 2), 13);
        due("says", x.says(5, 0, 3), 3);
        due("says of 0 and 0", x.says(5, 6, 7), 13);
        ones(4, 32);
        due("says where TURN is FULL", x.says(3, 4, 4), 13);
        for (int poly : NO_POLYS) {
            due("says", x.says(0, poly, 0), PolyBench.NO);
            due("says", x.says(0, 0, poly), PolyBench.NO);
        }
        for (int way : new int[] {-1, 6, LEAST, MOST}) {
            due("says", x.says(way, 0, 0), PolyBench.NO);
        }
        worths();
    }

    private static void worths() {
        worth("n", 3);
        worth("m", 2);
        worth("size", 3);
        worth("cut", 7);
        worth("kind", 0);
        worth("same", 0);
        worth("9999", 9999);
        worth("0012", 12);
        worth("3 or 0", 1);
        worth("0 or 4", 1);
        worth("0 or 0", 0);
        worth("3 and 5", 1);
        worth("3 and 0", 0);
        worth("0 and 3", 0);
        worth("2 and 1", 1);
        worth("not 7", 0);
        worth("not 0", 1);
        worth("not not 5", 1);
        worth("not -1", 0);
        worth("(7)", 7);
        worth("-7", -7);
        worth("--7", 7);
        worth("2--3", 5);
        worth("-2*3", -6);
        worth("2*-3", -6);
        worth("n-m-1", 0);
        worth("n-(m-1)", 2);
        worth("n-m+1", 2);
        worth("2+3*4", 14);
        worth("2*3+4", 10);
        worth("(2+3)*4", 20);
        worth("2<3", 1);
        worth("3<2", 0);
        worth("2<2", 0);
        worth("2=2", 1);
        worth("2=3", 0);
        worth("0-1<0", 1);
        worth("1+1<1+2", 1);
        worth("2*2=1+3", 1);
        worth("1 or 1 and 0", 1);
        worth("(1 or 1) and 0", 0);
        worth("0 and 0 or 1", 1);
        worth("not 0 and 0", 0);
        worth("not (0 and 0)", 1);
        worth("not 1<0", 1);
        worth("not 0=0", 0);
        worth("not 0 or 1", 1);
        worth("not 1+1", 0);
        worth("(2<3)+(3<2)", 1);
        worth("9999*9999*9999", 9999 * 9999 * 9999);
        worth("-(9999*9999*9999)*2", -(9999 * 9999 * 9999) * 2);
        worth("9999*9999*21+9999*9999*21", 9999 * 9999 * 21 + 9999 * 9999 * 21);
        worth("2048*1024*1024-1<0", 0);
        worth("2048*1024*1024<0", 1);
        worth("2048*1024*1024*2", 0);
    }

    private static void divide() {
        begin(15, 0);
        // x^3 + 2 x + 5 = (x^2 + 1) x + (x + 5)
        make(0, 5, 2, 0, 1);
        make(1, 1, 0, 1);
        due("QUOTIENT", x.divide(2, 0, 1, false), 2);
        is(2, 0, 1);
        due("REST", x.divide(3, 0, 1, true), 2);
        is(3, 5, 1);
        is(0, 5, 2, 0, 1);
        is(1, 1, 0, 1);
        due("QUOTIENT of a shorter one", x.divide(2, 1, 0, false), 0);
        is(2);
        due("REST of a shorter one", x.divide(2, 1, 0, true), 3);
        is(2, 1, 0, 1);
        make(4, 3);
        due("QUOTIENT by 3", x.divide(5, 0, 4, false), 4);
        // 65 is 1 / 3, as 195 = 2 * 97 + 1
        is(5, 5 * 65, 2 * 65, 0, 65);
        due("REST by 3", x.divide(5, 0, 4, true), 0);
        is(5);
        due("QUOTIENT of 0", x.divide(5, 6, 1, false), 0);
        due("REST of 0", x.divide(5, 6, 1, true), 0);
        due("QUOTIENT by itself, to it", x.divide(4, 4, 4, false), 1);
        is(4, 1);
        due("REST by itself, to it", x.divide(4, 4, 4, true), 0);
        is(4);
        make(5, 5, 2, 0, 1);
        due("REST to b", x.divide(1, 5, 1, true), 2);
        is(1, 5, 1);
        make(1, 2, 2);
        due("QUOTIENT to a", x.divide(5, 5, 1, false), 3);
        // x^3 + 2 x + 5 = (x + 1) (x^2 - x + 3) + 2; 49 is 1 / 2
        is(5, 3 * 49, -49, 49);
        make(5, 8);
        due("by 0", x.divide(5, 0, 7, false), -3);
        due("by 0", x.divide(5, 0, 7, true), -3);
        due("0 by 0", x.divide(5, 7, 7, true), -3);
        is(5, 8);
        for (int poly : NO_POLYS) {
            due("divide", x.divide(poly, 0, 1, true), -2);
            due("divide", x.divide(0, poly, 1, true), -2);
            due("divide", x.divide(0, 1, poly, false), -2);
            due("BAD ahead of STATE", x.divide(poly, 0, 7, true), -2);
            due("BAD ahead of STATE", x.divide(0, poly, 7, true), -2);
        }
        ones(0, 32);
        make(1, -1, 1);
        due("QUOTIENT of the longest", x.divide(2, 0, 1, false), 31);
        due("at", x.at(2, 0), 31);
        due("at", x.at(2, 30), 1);
        due("REST of the longest", x.divide(2, 0, 1, true), 1);
        is(2, 32);
    }

    private static void gcd() {
        begin(16, 1);
        // (x - 1) (x - 2) 3 and (x - 1) (x - 5) 7
        make(0, 6, -9, 3);
        make(1, 35, -42, 7);
        due("gcd", x.gcd(2, 0, 1), 2);
        is(2, -1, 1);
        is(0, 6, -9, 3);
        due("gcd", x.gcd(2, 1, 0), 2);
        is(2, -1, 1);
        due("gcd with itself", x.gcd(2, 0, 0), 3);
        is(2, 2, -3, 1);
        due("gcd with 0", x.gcd(2, 0, 7), 3);
        is(2, 2, -3, 1);
        due("gcd of 0", x.gcd(2, 7, 0), 3);
        is(2, 2, -3, 1);
        due("gcd of 0 and 0", x.gcd(2, 7, 6), 0);
        is(2);
        make(3, 5);
        due("gcd with a NUMBER", x.gcd(2, 0, 3), 1);
        is(2, 1);
        due("gcd of a NUMBER and 0", x.gcd(2, 3, 7), 1);
        is(2, 1);
        make(4, -7, 1);
        due("gcd of 1", x.gcd(2, 0, 4), 1);
        is(2, 1);
        due("gcd to a", x.gcd(0, 0, 1), 2);
        is(0, -1, 1);
        due("gcd to b", x.gcd(1, 0, 1), 2);
        is(1, -1, 1);
        for (int poly : NO_POLYS) {
            due("gcd", x.gcd(poly, 0, 1), -2);
            due("gcd", x.gcd(0, poly, 1), -2);
            due("gcd", x.gcd(0, 1, poly), -2);
        }
        is(0, -1, 1);
        make(0, 0, 1);
        x.clear(1);
        x.put(1, 31, 9);
        due("gcd of the longest", x.gcd(2, 1, 0), 2);
        is(2, 0, 1);
        due("gcd of the longest", x.gcd(2, 1, 1), 32);
        due("LEAD", x.at(2, 31), 1);
    }

    private static void cofactor() {
        begin(17, 0);
        // x + 2 and x + 1: (x + 2) 1 - 1 is x + 1
        make(0, 2, 1);
        make(1, 1, 1);
        due("cofactor", x.cofactor(2, 0, 1), 1);
        is(2, 1);
        // x^2 by x + 1 is 1: u is 1
        make(0, 0, 0, 1);
        due("cofactor", x.cofactor(2, 0, 1), 1);
        is(2, 1);
        // (x + 1) u - 1 is a multiple of x^2 for u = 1 - x
        due("cofactor", x.cofactor(2, 1, 0), 2);
        is(2, 1, -1);
        // 2 x^2 and x (x - 1): GCD x; 2 x^2 u - x is a multiple for u = 1 / 2, which is 49
        make(0, 0, 0, 2);
        make(1, 0, -1, 1);
        due("cofactor", x.cofactor(2, 0, 1), 1);
        is(2, 49);
        // x (x - 1) u - x, a multiple of 2 x^2: u = -1
        due("cofactor", x.cofactor(2, 1, 0), 1);
        is(2, -1);
        due("cofactor where b is 0", x.cofactor(2, 0, 7), 1);
        is(2, 49);
        due("cofactor where a is 0", x.cofactor(2, 7, 0), 0);
        is(2);
        make(2, 8);
        due("cofactor where both are 0", x.cofactor(2, 7, 6), 0);
        is(2);
        make(3, 5);
        make(2, 8);
        due("cofactor by a NUMBER", x.cofactor(2, 0, 3), 0);
        is(2);
        due("cofactor of a NUMBER", x.cofactor(2, 3, 0), 1);
        // 39 is 1 / 5, as 195 is 2 * 97 + 1
        is(2, 39);
        make(2, 8);
        due("cofactor where b divides a", x.cofactor(2, 0, 0), 0);
        is(2);
        due("cofactor of a NUMBER and 0", x.cofactor(2, 3, 7), 1);
        is(2, 39);
        due("cofactor to b", x.cofactor(0, 1, 0), 1);
        is(0, -1);
        make(0, 0, 0, 2);
        due("cofactor to a", x.cofactor(0, 0, 1), 1);
        is(0, 49);
        for (int poly : NO_POLYS) {
            due("cofactor", x.cofactor(poly, 0, 1), -2);
            due("cofactor", x.cofactor(0, poly, 1), -2);
            due("cofactor", x.cofactor(0, 1, poly), -2);
        }
        is(0, 49);
        // x + 1 by x^31: u is 1 - x + x^2 - ..
        make(0, 1, 1);
        x.clear(1);
        x.put(1, 31, 5);
        due("cofactor by the longest", x.cofactor(2, 0, 1), 31);
        due("at", x.at(2, 30), 1);
        due("at", x.at(2, 29), 96);
    }

    private static void compose() {
        begin(18, 2);
        make(0, 3, 2, 1);
        make(1, 5, 1);
        // 3 + 2 (x + 5) + (x + 5)^2
        due("compose", x.compose(2, 0, 1), 3);
        is(2, 38, 12, 1);
        // 5 + (3 + 2 x + x^2)
        due("compose", x.compose(2, 1, 0), 3);
        is(2, 8, 2, 1);
        is(0, 3, 2, 1);
        make(3, 4);
        due("compose with a NUMBER", x.compose(2, 0, 3), 1);
        is(2, 27);
        due("compose of a NUMBER", x.compose(2, 3, 0), 1);
        is(2, 4);
        due("compose with 0", x.compose(2, 0, 7), 1);
        is(2, 3);
        due("compose of 0", x.compose(2, 7, 0), 0);
        is(2);
        make(4, -3, 2, 1);
        make(5, 1);
        due("compose that is 0", x.compose(2, 4, 5), 0);
        is(2);
        due("compose to a", x.compose(0, 0, 1), 3);
        is(0, 38, 12, 1);
        make(0, 3, 2, 1);
        due("compose to b", x.compose(1, 0, 1), 3);
        is(1, 38, 12, 1);
        due("compose of one with it", x.compose(0, 0, 0), 5);
        // 3 + 2 (3 + 2 x + x^2) + (3 + 2 x + x^2)^2
        is(0, 18, 16, 12, 4, 1);
        composeFull();
        make(2, 8);
        for (int poly : NO_POLYS) {
            due("compose", x.compose(poly, 2, 2), -2);
            due("compose", x.compose(2, poly, 2), -2);
            due("compose", x.compose(2, 2, poly), -2);
            due("BAD ahead of FULL", x.compose(poly, 0, 0), -2);
        }
        is(2, 8);
    }

    private static void composeFull() {
        ones(0, 32);
        make(1, 0, 2);
        due("compose of 32", x.compose(2, 0, 1), 32);
        due("at", x.at(2, 5), 32);
        due("compose of 32", x.compose(2, 1, 0), 32);
        make(3, 0, 0, 1);
        x.clear(4);
        x.put(4, 15, 1);
        due("compose of 31", x.compose(2, 3, 4), 31);
        due("at", x.at(2, 30), 1);
        make(2, 8);
        x.put(4, 16, 1);
        due("compose of 33", x.compose(2, 3, 4), -4);
        due("compose of 33", x.compose(2, 4, 3), -4);
        due("compose of 962", x.compose(2, 0, 0), -4);
        is(2, 8);
        make(5, 9);
        due("compose of the longest with a NUMBER", x.compose(2, 0, 5), 1);
        due("compose of a NUMBER with the longest", x.compose(2, 5, 0), 1);
        is(2, 9);
        due("compose of 0 with the longest", x.compose(2, 7, 0), 0);
        due("compose of the longest with 0", x.compose(2, 0, 7), 1);
        is(2, 1);
    }

    private static void move() {
        begin(19, 0);
        make(0, 1, 0, 0, 1);
        due("move", x.move(1, 0, 2), 4);
        is(1, 9, 12, 6, 1);
        due("move back", x.move(1, 1, -2), 4);
        is(1, 1, 0, 0, 1);
        due("move by PRIME", x.move(1, 0, 97), 4);
        is(1, 1, 0, 0, 1);
        due("move by 0", x.move(1, 0, 0), 4);
        is(1, 1, 0, 0, 1);
        int by = Math.floorMod(LEAST, 97);
        due("move by the least", x.move(1, 0, LEAST), 4);
        is(1, by * by * by + 1, 3 * by * by, 3 * by, 1);
        due("move of 0", x.move(1, 7, 5), 0);
        is(1);
        make(2, 6);
        due("move of a NUMBER", x.move(1, 2, 5), 1);
        is(1, 6);
        is(0, 1, 0, 0, 1);
        x.clear(3);
        x.put(3, 31, 1);
        due("move of the longest", x.move(4, 3, 1), 32);
        due("at", x.at(4, 0), 1);
        due("at", x.at(4, 1), 31);
        due("at", x.at(4, 2), 465 % 97);
        due("at", x.at(4, 30), 31);
        for (int poly : NO_POLYS) {
            due("move", x.move(poly, 0, 1), -2);
            due("move", x.move(0, poly, 1), -2);
        }
    }

    private static void root() {
        begin(20, 3);
        // (x - 7680) (x - 3)^2 x, times 5
        make(0, 0, 45, 45 - 30, 5 - 30, 5);
        due("ROOTS", x.root(0, -1), 3);
        due("root", x.root(0, 0), 0);
        due("root", x.root(0, 1), 3);
        due("root", x.root(0, 2), 7680);
        for (int i : new int[] {3, 4, 32, MOST, -2, -3, LEAST}) {
            due("root", x.root(0, i), -1);
        }
        is(0, 0, 45, 15, -25, 5);
        make(1, 4);
        due("ROOTS of a NUMBER", x.root(1, -1), 0);
        due("root of a NUMBER", x.root(1, 0), -1);
        due("root of a NUMBER", x.root(1, -2), -1);
        for (int i : new int[] {-2, -1, 0, 1, MOST, LEAST}) {
            due("ROOTS of 0", x.root(7, i), -3);
        }
        for (int poly : NO_POLYS) {
            due("root", x.root(poly, -1), -2);
            due("root", x.root(poly, 0), -2);
            due("root", x.root(poly, -2), -2);
        }
        make(2, -7, 3);
        // 3 * 5123 is 2 * 7681 + 7
        due("ROOTS of a line", x.root(2, -1), 1);
        due("root of a line", x.root(2, 0), 5123);
        due("root of a line", x.root(2, 1), -1);
        rootsOfPowers();
    }

    private static void rootsOfPowers() {
        // x^16 - 1 has 16 ROOTS for each PRIME here: each is 1 modulo 16.
        for (int prime = 0; prime < 4; prime++) {
            begin(20, prime);
            x.put(0, 16, 1);
            x.put(0, 0, -1);
            due("ROOTS of x^16 - 1", x.root(0, -1), 16);
            due("root", x.root(0, 0), 1);
            due("root", x.root(0, 15), x.count(0) - 1);
            due("root", x.root(0, 16), -1);
            int last = -1;
            for (int i = 0; i < 16; i++) {
                int root = x.root(0, i);
                due("rising", root > last ? 1 : 0, 1);
                x.place(root);
                due("value at a ROOT", x.value(0, i), 0);
                last = root;
            }
            x.clear(0);
            x.put(0, 31, 2);
            due("ROOTS of x^31", x.root(0, -1), 1);
            due("root", x.root(0, 0), 0);
            make(1, -5, 0, 1);
            due("ROOTS of x^2 - 5", x.root(1, -1), isSquare(5, x.count(0)) ? 2 : 0);
        }
    }

    private static boolean isSquare(int number, int prime) {
        for (int i = 0; i < prime; i++) {
            if (i * i % prime == number) {
                return true;
            }
        }
        return false;
    }

    private static void order() {
        begin(21, 0);
        // (x - 2)^3 (x - 96)
        make(0, -8, 4, 6, -5, 1);
        due("order", x.order(0, 2), 3);
        due("order", x.order(0, -1), 1);
        due("order", x.order(0, 96), 1);
        due("order", x.order(0, 99), 3);
        due("order of no ROOT", x.order(0, 3), 0);
        due("order of no ROOT", x.order(0, 0), 0);
        make(1, 5);
        due("order in a NUMBER", x.order(1, 0), 0);
        x.clear(2);
        x.put(2, 31, 5);
        due("order in x^31", x.order(2, 0), 31);
        due("order in x^31", x.order(2, 97), 31);
        due("order in x^31", x.order(2, 1), 0);
        due("order in x^31", x.order(2, LEAST), Math.floorMod(LEAST, 97) == 0 ? 31 : 0);
        due("order in 0", x.order(7, 0), -3);
        for (int poly : NO_POLYS) {
            due("order", x.order(poly, 0), -2);
        }
        is(0, -8, 4, 6, -5, 1);
    }

    private static void place() {
        begin(22, 0);
        int[] numbers = {5, 5, -1, 97, 98, LEAST, MOST, 0, 1, 2, 3, 4, 5, 6, 7, 8};
        for (int i = 0; i < 16; i++) {
            due("place", x.place(numbers[i]), i);
        }
        due("place", x.place(1), -4);
        due("PLACES", x.count(2), 16);
        for (int i = 0; i < 16; i++) {
            due("NUMBER", x.told(i, 0), Math.floorMod(numbers[i], 97));
            due("VALUE", x.told(i, 1), 0);
        }
    }

    private static void leave() {
        begin(23, 0);
        due("leave", x.leave(), 0);
        places(4, 5, 6);
        values(1, 2, 3);
        due("leave", x.leave(), 3);
        due("PLACES", x.count(2), 0);
        due("told", x.told(0, 0), -2);
        due("leave", x.leave(), 0);
        due("place", x.place(9), 0);
        due("VALUE of a new PLACE", x.told(0, 1), 0);
        due("NUMBER of a new PLACE", x.told(0, 0), 9);
        for (int i = 1; i < 16; i++) {
            x.place(i);
        }
        due("leave", x.leave(), 16);
        due("place", x.place(3), 0);
    }

    private static void see() {
        begin(24, 0);
        due("see of none", x.see(0, 1), -2);
        places(4, 5);
        due("see", x.see(0, 100), 0);
        due("see", x.see(0, -1), 3);
        due("see", x.see(0, LEAST), 96);
        due("see", x.see(0, 0), Math.floorMod(LEAST, 97));
        due("see", x.see(1, MOST), 0);
        due("see", x.see(1, 7), Math.floorMod(MOST, 97));
        for (int i : new int[] {-1, 2, 16, LEAST, MOST}) {
            due("see of no PLACE", x.see(i, 1), -2);
        }
        due("VALUE", x.told(1, 1), 7);
        due("NUMBER", x.told(1, 0), 5);
    }

    private static void told() {
        begin(25, 0);
        due("told of none", x.told(0, 0), -2);
        places(4, 101);
        values(7, 8);
        due("told", x.told(0, 0), 4);
        due("told", x.told(0, 1), 7);
        due("told", x.told(1, 0), 4);
        due("told", x.told(1, 1), 8);
        for (int what : new int[] {-1, 2, LEAST, MOST}) {
            due("told of nothing", x.told(0, what), -2);
        }
        for (int i : new int[] {-1, 2, 16, LEAST, MOST}) {
            due("told of no PLACE", x.told(i, 0), -2);
            due("told of no PLACE", x.told(i, 1), -2);
        }
    }

    private static void value() {
        begin(26, 3);
        make(0, 3, 2, 1);
        due("value at none", x.value(0, 0), -2);
        places(10, -1, 0);
        values(5, 5, 5);
        due("value", x.value(0, 0), 123);
        due("value", x.value(0, 1), 2);
        due("value", x.value(0, 2), 3);
        due("value of 0", x.value(7, 0), 0);
        x.clear(1);
        x.put(1, 31, 7680);
        due("value of the longest", x.value(1, 1), 1);
        due("VALUE stays", x.told(0, 1), 5);
        for (int poly : NO_POLYS) {
            due("value", x.value(poly, 0), -2);
        }
        for (int i : new int[] {-1, 3, 16, LEAST, MOST}) {
            due("value", x.value(0, i), -2);
        }
    }

    private static void look() {
        begin(27, 0);
        make(0, 3, 2, 1);
        due("look at none", x.look(0), 0);
        places(1, 2, 2, -1);
        values(9, 9, 9, 9);
        due("look", x.look(0), 4);
        int[] due = {6, 11, 11, 2};
        for (int i = 0; i < 4; i++) {
            due("VALUE", x.told(i, 1), due[i]);
        }
        for (int poly : NO_POLYS) {
            due("look", x.look(poly), -2);
        }
        due("VALUE", x.told(1, 1), 11);
        due("look of 0", x.look(7), 4);
        due("VALUE", x.told(1, 1), 0);
    }

    private static void fill() {
        begin(28, 0);
        make(0, 8);
        due("fill of none", x.fill(0), 0);
        is(0);
        places(1, 2, 3);
        values(6, 11, 18);
        due("fill", x.fill(0), 3);
        is(0, 3, 2, 1);
        due("VALUE stays", x.told(2, 1), 18);
        values(5, 5, 5);
        due("fill", x.fill(0), 1);
        is(0, 5);
        values(0, 0, 0);
        due("fill", x.fill(0), 0);
        is(0);
        // x^3 MOVED by 2: 8, 12, 6, 1; at 1 it is 1, and 3 next.
        places(2, 1, 2, 1);
        values(8, 1, 12, 3);
        due("fill with repeats", x.fill(0), 4);
        is(0, 0, 0, 0, 1);
        places(5, 5, 5, 5);
        values(1, 2, 3, 4);
        due("fill with one NUMBER", x.fill(0), 4);
        due("move", x.move(0, 0, 5), 4);
        is(0, 1, 2, 3, 4);
        places(0, 97, 194);
        values(7, 0, 9);
        due("fill with one NUMBER", x.fill(0), 3);
        is(0, 7, 0, 9);
        for (int poly : NO_POLYS) {
            due("fill", x.fill(poly), -2);
        }
        is(0, 7, 0, 9);
        fillMost();
    }

    private static void fillMost() {
        for (int prime = 0; prime < 4; prime++) {
            begin(28, prime);
            for (int i = 0; i < 16; i++) {
                x.put(1, i, 3 * i * i + 7 * i + 1);
                x.place(5 * i + 2);
            }
            x.look(1);
            due("fill of 16", x.fill(0), 16);
            for (int i = 0; i < 16; i++) {
                due("at", x.at(0, i), x.at(1, i));
            }
            x.leave();
            for (int i = 0; i < 16; i++) {
                x.place(i % 3 + 1);
            }
            for (int i = 0; i < 16; i++) {
                x.move(2, 1, i % 3 + 1);
                x.see(i, x.at(2, i / 3));
            }
            due("fill of 16 with repeats", x.fill(0), 16);
            for (int i = 0; i < 16; i++) {
                due("at", x.at(0, i), x.at(1, i));
            }
        }
    }

    private static void right() {
        begin(29, 2);
        for (int poly : NO_POLYS) {
            due("right", x.right(poly, 1), -2);
        }
        due("right of none", x.right(0, 1), -2);
        due("right of none", x.right(0, 0), -2);
        places(1, 2, 3, 4, 5, 6, 7);
        make(0, 3, 2, 1);
        x.look(0);
        for (int k = 3; k <= 7; k++) {
            make(1, 8);
            due("right where none is wrong", x.right(1, k), 0);
            is(1, 3, 2, 1);
        }
        due("right for 2", x.right(1, 2), -1);
        x.see(2, 0);
        x.see(5, 0);
        due("right", x.right(1, 3), 2);
        is(1, 3, 2, 1);
        due("VALUE stays", x.told(2, 1), 0);
        make(1, 8);
        due("right for 4: one may be wrong", x.right(1, 4), -1);
        due("right for 5: one may be wrong", x.right(1, 5), -1);
        due("right for 6: none may be wrong", x.right(1, 6), -1);
        is(1, 8);
        due("right for 7: what is FILLED", x.right(1, 7), 0);
        due("value", x.value(1, 2), 0);
        due("value", x.value(1, 3), 27);
        x.see(5, 51);
        due("right for 5", x.right(1, 5), 1);
        is(1, 3, 2, 1);
        due("right for 6", x.right(1, 6), -1);
        for (int k : new int[] {0, -1, 8, 16, LEAST, MOST}) {
            due("right for no LENGTH", x.right(1, k), -2);
        }
        for (int poly : NO_POLYS) {
            due("right", x.right(poly, 1), -2);
        }
        rightOfAlike();
        rightOfMost();
    }

    private static void rightOfAlike() {
        places(1, 2, 1);
        make(1, 8);
        due("right of alike", x.right(1, 1), -3);
        due("BAD ahead of STATE", x.right(1, 0), -2);
        due("BAD ahead of STATE", x.right(1, 4), -2);
        due("BAD ahead of STATE", x.right(8, 1), -2);
        places(3, 3 + 257);
        due("right of alike by PRIME", x.right(1, 1), -3);
        is(1, 8);
        places(3);
        values(0);
        due("right of one", x.right(1, 1), 0);
        is(1);
        values(4);
        due("right of one", x.right(1, 1), 0);
        is(1, 4);
        places(3, 4, 5);
        values(0, 0, 6);
        due("right to 0", x.right(1, 1), 1);
        is(1);
        values(5, 0, 6);
        due("right of three unlike", x.right(1, 1), -1);
        due("right of two wrong", x.right(1, 2), -1);
    }

    /** 16 PLACES: up to half of 16 - k VALUES are put right, and not one more. */
    private static void rightOfMost() {
        for (int k = 1; k <= 16; k++) {
            begin(29, 3);
            for (int i = 0; i < 16; i++) {
                x.place(100 * i + 7);
            }
            for (int i = 0; i < k; i++) {
                x.put(0, i, i * i + 3);
            }
            x.look(0);
            for (int wrongs = 0; wrongs <= (16 - k) / 2; wrongs++) {
                due("right of 16 for " + k, x.right(1, k), wrongs);
                due("LENGTH", x.at(1, -1), k);
                for (int i = 0; i < k; i++) {
                    due("at", x.at(1, i), i * i + 3);
                }
                int place = wrongs * 7 % 16;
                x.see(place, x.told(place, 1) + 1 + wrongs);
            }
            if (k < 16) {
                due("right of 16 for " + k + " with one wrong too many", x.right(1, k), -1);
            }
        }
    }

    private static void relation() {
        begin(30, 0);
        due("SIZE of none", x.relation(0), 0);
        due("relation", x.relation(1), -2);
        due("relation", x.relation(-1), -2);
        places(0, 0, 0, 0, 0, 0);
        due("SIZE of 0", x.relation(0), 0);
        due("relation of 0", x.relation(1), -2);
        values(1, 1, 2, 3, 5, 8);
        due("SIZE", x.relation(0), 2);
        due("relation", x.relation(1), 1);
        due("relation", x.relation(2), 1);
        for (int j : new int[] {3, 4, 7, 16, MOST, -1, LEAST}) {
            due("relation", x.relation(j), -2);
        }
        values(3, 6, 12, 24, 48, 96);
        due("SIZE", x.relation(0), 1);
        due("relation", x.relation(1), 2);
        due("relation", x.relation(2), -2);
        values(1, 2, 3, 4, 5, 6);
        due("SIZE", x.relation(0), 2);
        due("relation", x.relation(1), 2);
        due("relation", x.relation(2), 96);
        // From the second on all are 0: r(1) is 0.
        values(5, 0, 0, 0, 0, 0);
        due("SIZE", x.relation(0), 1);
        due("relation", x.relation(1), 0);
        values(0, 0, 0, 0, 0, 9);
        due("SIZE", x.relation(0), 6);
        due("relation that isn't told", x.relation(1), -3);
        due("relation that isn't told", x.relation(6), -3);
        due("BAD ahead of STATE", x.relation(7), -2);
        due("BAD ahead of STATE", x.relation(-1), -2);
        values(0, 0, 1, 0, 0, 5);
        due("SIZE of half", x.relation(0), 3);
        due("relation", x.relation(1), 0);
        due("relation", x.relation(2), 0);
        due("relation", x.relation(3), 5);
        due("relation", x.relation(4), -2);
        values(0, 0, 0, 1, 0, 0);
        due("SIZE above half", x.relation(0), 4);
        due("relation that isn't told", x.relation(4), -3);
        relationsOfMost();
    }

    private static void relationsOfMost() {
        begin(30, 3);
        int[] v = new int[16];
        for (int i = 0; i < 16; i++) {
            v[i] = i < 8 ? i == 7 ? 1 : 0 : Math.floorMod(3 * v[i - 1] - v[i - 3] + 7 * v[i - 8], 7681);
            x.place(5);
            x.see(i, v[i]);
        }
        int[] due = {8, 3, 0, -1, 0, 0, 0, 0, 7};
        for (int j = 0; j <= 8; j++) {
            due("relation(" + j + ")", x.relation(j), j == 0 ? 8 : Math.floorMod(due[j], 7681));
        }
        due("relation", x.relation(9), -2);
        due("VALUE stays", x.told(9, 1), v[9]);
        x.see(15, v[15] + 1);
        due("SIZE with one fault at the end", x.relation(0), 8);
        x.leave();
        for (int i = 0; i < 16; i++) {
            x.place(i);
        }
        x.see(15, 1);
        due("SIZE of most", x.relation(0), 16);
        due("relation that isn't told", x.relation(16), -3);
        due("relation", x.relation(17), -2);
    }

    private static void power() {
        begin(31, 0);
        due("power of none", x.power(0), 0);
        due("power of none", x.power(999), 0);
        places(0, 2, -1);
        values(5, 3, 10);
        due("power", x.power(0), 18);
        due("power", x.power(1), Math.floorMod(6 - 10, 97));
        due("power", x.power(2), 22);
        due("power", x.power(10), (3 * 1024 + 10) % 97);
        // 2 to the power 48 is 1 by 97, so to the power 999 it is 2 to the power 39, which is 2^(-9).
        int inverse = 1;
        while (inverse * 512 % 97 != 1) {
            inverse++;
        }
        due("power", x.power(999), Math.floorMod(3 * inverse - 10, 97));
        for (int j : new int[] {-1, 1000, LEAST, MOST}) {
            due("power", x.power(j), -2);
        }
        x.leave();
        for (int j : new int[] {-1, 1000}) {
            due("power of none", x.power(j), -2);
        }
    }

    private static void count() {
        begin(32, 1);
        x.way(0, 1);
        x.way(0, 1);
        places(1, 2, 3);
        write("plain 1;split 2;turn 3;");
        x.text();
        write("plain 1;split 2;turn 3;");
        x.text();
        x.force(2);
        write("abcd");
        int[] due = {193, 2, 3, 3, 4, 2};
        for (int what = 0; what < 6; what++) {
            due("count(" + what + ")", x.count(what), due[what]);
        }
        for (int what : new int[] {-1, 6, LEAST, MOST}) {
            due("count", x.count(what), -2);
        }
    }

    private static void counted() {
        begin(33, 3);
        allWays(16);
        ones(0, 16);
        ones(1, 17);
        due("counted()", x.counted(), 0);
        long due = 0;
        for (int k = 0; k < 100; k++) {
            due += x.times(2, 0, 1, 0);
            due("counted()", x.counted(), due);
        }
        due("counted()", x.counted(), 27200);
        x.cost(0, 1, 0);
        x.plan(0, 1);
        x.compose(3, 0, 7);
        x.divide(3, 1, 0, true);
        x.times(2, 1, 1, 0);
        x.times(2, 1, 1, 9);
        due("counted() of what makes no product", x.counted(), 27200);
        x.planned(2, 0, 1);
        due("counted()", x.counted(), 27200 + 272);
    }

    private static void sheet() {
        begin(34, 0);
        for (int sort = 0; sort < 3; sort++) {
            due("sheet", x.sheet(sort, sort, 40), 1);
            due("its last item", x.cell(sort, 39, 5), 1);
            due("none behind", x.cell(sort, 40, 5), -12);
            due("sheet", x.sheet(sort, sort, 3), 1);
            due("lay", x.lay(0, sort, sort, 0, 3), 0);
            is(0);
            due("none behind", x.cell(sort, 3, 5), -12);
            due("cell", x.cell(sort, 0, 5), 1);
            due("cell", x.cell(sort, 2, 5), 1);
            due("sheet again", x.sheet(sort, sort, 40), 1);
            due("lay", x.lay(0, sort, sort, 0, 32), 0);
            due("lay", x.lay(0, sort, sort, 8, 32), 0);
            due("cell", x.cell(sort, 0, 5), 1);
            due("sheet of another sort", x.sheet(sort, (sort + 1) % 3, 4), 1);
            due("lay", x.lay(0, sort, (sort + 1) % 3, 0, 4), 0);
            due("lay", x.lay(0, sort, sort, 0, 4), -13);
        }
        due("sheet of none", x.sheet(3, 1, 0), 1);
        due("cell", x.cell(3, 0, 5), -12);
        for (int n : new int[] {0, 41, -1, LEAST, MOST}) {
            due("sheet", x.sheet(3, 1, 1), 1);
            due("sheet that goes missing", x.sheet(3, -1, n), 1);
            due("cell", x.cell(3, 0, 5), -11);
        }
        sheetBad();
    }

    private static void sheetBad() {
        x.sheet(0, 1, 2);
        x.cell(0, 0, 300);
        for (int sheet : new int[] {-1, 4, LEAST, MOST}) {
            due("sheet", x.sheet(sheet, 0, 1), -2);
            due("sheet", x.sheet(sheet, -1, 1), -2);
            due("BAD ahead of -14", x.sheet(sheet, 0, -1), -2);
        }
        for (int sort : new int[] {-2, 3, LEAST, MOST}) {
            due("sheet", x.sheet(0, sort, 1), -2);
            due("BAD ahead of -14", x.sheet(0, sort, -1), -2);
        }
        for (int n : new int[] {41, MOST}) {
            due("sheet", x.sheet(0, 2, n), -2);
        }
        for (int n : new int[] {-1, LEAST}) {
            due("sheet", x.sheet(0, 2, n), -14);
        }
        due("the row stays", x.lay(0, 0, 1, 0, 2), 1);
        is(0, 300);
    }

    private static void cell() {
        begin(35, 3);
        int[] numbers = {0, 1, -1, 127, 128, 255, 256, -128, -129, 32767, 32768, 65535, 65536, LEAST, MOST, 70000};
        for (int sort = 0; sort < 3; sort++) {
            x.sheet(1, sort, 16);
            for (int i = 0; i < 16; i++) {
                due("cell", x.cell(1, i, numbers[i]), 1);
            }
            due("cell again", x.cell(1, 0, 77), 1);
            x.lay(0, 1, sort, 0, 16);
            for (int i = 1; i < 16; i++) {
                int kept = sort == 0 ? (byte) numbers[i] : sort == 1 ? (short) numbers[i] : numbers[i];
                due("item", x.at(0, i), Math.floorMod(kept, 7681));
            }
            due("item", x.at(0, 0), 77);
        }
        due("byte 200", x.sheet(2, 0, 1) * x.cell(2, 0, 200), 1);
        x.lay(0, 2, 0, 0, 1);
        is(0, -56);
        for (int sheet : new int[] {-1, 4, LEAST, MOST}) {
            due("cell", x.cell(sheet, 0, 1), -2);
        }
        due("cell of a missing one", x.cell(0, 0, 1), -11);
        due("-11 ahead of -12", x.cell(0, -1, 1), -11);
        for (int i : new int[] {-1, 16, 39, 40, LEAST, MOST}) {
            due("cell", x.cell(1, i, 1), -12);
        }
    }

    private static void lay() {
        begin(36, 0);
        x.sheet(0, 2, 40);
        for (int i = 0; i < 40; i++) {
            x.cell(0, i, i + 1);
        }
        ones(0, 32);
        due("lay", x.lay(0, 0, 2, 3, 2), 2);
        is(0, 4, 5);
        due("lay", x.lay(0, 0, 2, 8, 32), 32);
        due("at", x.at(0, 31), 40);
        due("lay", x.lay(0, 0, 2, 39, 1), 1);
        is(0, 40);
        x.cell(0, 39, LEAST);
        x.cell(0, 38, 0);
        due("lay", x.lay(0, 0, 2, 38, 2), 2);
        is(0, 0, LEAST);
        x.cell(0, 39, 97);
        due("lay of what is 0", x.lay(0, 0, 2, 37, 3), 1);
        is(0, 38);
        for (int from : new int[] {0, -1, 40, 41, LEAST, MOST}) {
            make(0, 8);
            due("lay of no item", x.lay(0, 0, 2, from, 0), 0);
            is(0);
        }
        layRefused();
    }

    private static void layRefused() {
        make(0, 8);
        int[][] outside = {{-1, 1}, {-1, 32}, {40, 1}, {39, 2}, {9, 32}, {MOST, 1}, {MOST, 32}, {LEAST, 1}, {-5, 3}};
        for (int[] one : outside) {
            due("lay from " + one[0] + " of " + one[1], x.lay(0, 0, 2, one[0], one[1]), -12);
        }
        for (int poly : NO_POLYS) {
            due("lay", x.lay(poly, 0, 2, 0, 1), -2);
            due("BAD ahead of all", x.lay(poly, 0, 0, -1, 1), -2);
            due("BAD ahead of all", x.lay(poly, 1, 0, -1, 1), -2);
        }
        for (int sheet : new int[] {-1, 4, LEAST, MOST}) {
            due("lay", x.lay(0, sheet, 2, 0, 1), -2);
        }
        for (int sort : new int[] {-1, 3, LEAST, MOST}) {
            due("lay", x.lay(0, 0, sort, 0, 1), -2);
            due("BAD ahead of -11", x.lay(0, 1, sort, 0, 1), -2);
        }
        for (int n : new int[] {-1, 33, LEAST, MOST}) {
            due("lay", x.lay(0, 0, 2, 0, n), -2);
            due("BAD ahead of -13", x.lay(0, 0, 1, 0, n), -2);
            due("BAD ahead of -11", x.lay(0, 1, 1, 0, n), -2);
        }
        for (int sort = 0; sort < 3; sort++) {
            due("lay of a missing one", x.lay(0, 1, sort, 0, 1), -11);
            due("-11 ahead of -12", x.lay(0, 1, sort, -1, 1), -11);
            due("-11 where no item is asked", x.lay(0, 1, sort, 0, 0), -11);
            x.sheet(2, sort, 2);
            for (int other = 0; other < 3; other++) {
                if (other != sort) {
                    due("lay of another sort", x.lay(0, 2, other, 0, 2), -13);
                    due("-13 ahead of -12", x.lay(0, 2, other, 0, 3), -13);
                    due("-13 where no item is asked", x.lay(0, 2, other, 0, 0), -13);
                }
            }
        }
        is(0, 8);
        x.sheet(0, -1, 0);
        due("lay of one that went missing", x.lay(0, 0, 0, 0, 1), -11);
        is(0, 8);
        x.sheet(0, 0, 0);
        due("lay of an empty one", x.lay(0, 0, 0, 0, 1), -12);
        is(0, 8);
        due("lay of no item of an empty one", x.lay(0, 0, 0, 0, 0), 0);
        is(0);
    }

    private static void taken() {
        begin(37, 0);
        for (int way = 0; way < 3; way++) {
            due("taken of none", x.taken(way, 0), -11);
        }
        for (int kind = 0; kind < 6; kind++) {
            x.way(kind, 10 + kind);
        }
        String[] under = {"0", "01", "012", "03", "0124", "035"};
        for (int way = 0; way < 6; way++) {
            for (int k = 0; k < 6; k++) {
                int want = under[way].indexOf('0' + k) < 0 ? -13 : 10 + way;
                due("taken(" + way + ", " + k + ")", x.taken(way, k), want);
            }
            for (int k : new int[] {-1, 6, LEAST, MOST}) {
                due("taken", x.taken(way, k), -2);
            }
        }
        for (int way : new int[] {-1, 6, 8, LEAST, MOST}) {
            due("taken of no WAY", x.taken(way, 0), -11);
            due("taken of no WAY", x.taken(way, 5), -11);
            due("BAD ahead of -11", x.taken(way, 6), -2);
        }
    }
}
