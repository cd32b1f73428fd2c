import java.util.function.Consumer;
import java.util.function.ToLongFunction;

/**
 * Terms 1: "Refusals, the first that the call's words name; they change nothing". For each refusal of each promise: its
 * answer, which one comes first where two are due, and that later calls show the same as on a second bench that wasn't
 * called so. An object is used for at most 512 calls, so there are many.
 */
public final class PolyBenchRefusals {
    private static final int LEAST = Integer.MIN_VALUE, MOST = Integer.MAX_VALUE;
    private static final int NONE = -1, BAD = -2, STATE = -3, FULL = -4;
    private static final int NOTHING = -11, OUTSIDE = -12, OTHER = -13, BELOW = -14;
    private static final int PLAIN = 0, TURN = 3, TWICE = 5;
    private static final int[] EVERY_KIND = {0, 1, 2, 3, 4, 5};
    private static final int[] NO_POLYS = {-1, 8, LEAST, MOST};
    private static final int[] NO_SHEETS = {-1, 4, LEAST, MOST};

    // What a furnished bench has in its POLYS, PLACES and SHEETS.
    private static final int SMALL = 0, LINE = 1, LONGEST = 2, SEVENTEEN = 3, ZERO = 4, SQUARE = 5, SIXTEEN = 6;
    private static final int ITS_PLACES = 5;
    private static final int BYTES = 0, SHORTS = 1, INTS = 2, MISSING = 3;

    private static String promise = "";
    private static int wrong = 0;

    private interface OfOne {
        long call(PolyBench bench, int poly);
    }

    private interface OfTwo {
        long call(PolyBench bench, int a, int b);
    }

    private interface OfThree {
        long call(PolyBench bench, int to, int a, int b);
    }

    public static void main(String[] args) {
        ofNumbers();
        ofWays();
        ofPlans();
        ofTexts();
        ofTwoPolys();
        ofRoots();
        ofPlaces();
        ofRight();
        ofRelation();
        ofSheets();
        ofLay();
        ofTaken();
        whatOnlyAsks();
        System.out.println(wrong == 0 ? "all refusals change nothing" : wrong + " refusals are not as due");
        if (wrong != 0) {
            System.exit(1);
        }
    }

    // ---- two benches that are alike

    private static void ones(PolyBench bench, int poly, int length) {
        for (int i = 0; i < length; i++) {
            bench.put(poly, i, 1);
        }
    }

    private static void row(PolyBench bench, int poly, int... numbers) {
        for (int i = 0; i < numbers.length; i++) {
            bench.put(poly, i, numbers[i]);
        }
    }

    private static void write(PolyBench bench, String words) {
        for (int i = 0; i < words.length(); i += 8) {
            int n = Math.min(8, words.length() - i);
            long bytes = 0;
            for (int j = n - 1; j >= 0; j--) {
                bytes = bytes << 8 | words.charAt(i + j);
            }
            bench.feed(n, bytes);
        }
    }

    private static void places(PolyBench bench, int... numbers) {
        bench.leave();
        for (int number : numbers) {
            bench.place(number);
        }
    }

    private static void values(PolyBench bench, int... numbers) {
        for (int i = 0; i < numbers.length; i++) {
            bench.see(i, numbers[i]);
        }
    }

    /** A bench with something of everything, so that there is something to spoil; THE TAPE is empty. */
    private static PolyBench furnished(int[] kinds) {
        PolyBench bench = new PolyBench(0);
        row(bench, SMALL, 1, 2, 3);
        row(bench, LINE, 4, 5);
        ones(bench, LONGEST, 32);
        ones(bench, SEVENTEEN, 17);
        bench.put(SQUARE, 2, 1);
        ones(bench, SIXTEEN, 16);
        bench.put(7, 0, 9);
        for (int kind : kinds) {
            bench.way(kind, kind + 2);
        }
        bench.times(7, SMALL, 7, 0);
        write(bench, "plain 7;split n+8;turn m+9;");
        bench.force(bench.text());
        places(bench, 3, 1, 4, 96, 5);
        values(bench, 2, 7, 1, 8, 2);
        for (int sort = 0; sort < 3; sort++) {
            bench.sheet(sort, sort, 3);
            bench.cell(sort, 0, 11 + sort);
            bench.cell(sort, 2, -1 - sort);
        }
        return bench;
    }

    /** All that can be asked of a bench, if need be by calls that change it: it is not used further. */
    private static String shown(PolyBench bench) {
        StringBuilder all = new StringBuilder();
        for (int poly = 0; poly < 8; poly++) {
            all.append("; POLY ").append(poly).append(':');
            int length = bench.at(poly, -1);
            for (int i = -1; i < length; i++) {
                all.append(' ').append(bench.at(poly, i));
            }
        }
        all.append("; counts:");
        for (int what = 0; what < 6; what++) {
            all.append(' ').append(bench.count(what));
        }
        all.append("; COUNTED: ").append(bench.counted());
        for (int i = 0; i < bench.count(2); i++) {
            all.append("; PLACE: ").append(bench.told(i, 0)).append(' ').append(bench.told(i, 1));
        }
        for (int way = 0; way < bench.count(1); way++) {
            all.append("; WAY:");
            for (int k = 0; k < 6; k++) {
                all.append(' ').append(bench.taken(way, k));
            }
        }
        showTexts(bench, all);
        showSheets(bench, all);
        return all.toString();
    }

    private static void showTexts(PolyBench bench, StringBuilder all) {
        // What stands on THE TAPE is seen when it is read as a TEXT.
        write(bench, "turn 3;");
        all.append("; text(): ").append(bench.text());
        for (int text = 0; bench.force(text) != BAD; text++) {
            all.append("; TEXT ").append(text).append(':');
            for (int way = 0; way < bench.count(1); way++) {
                all.append(' ').append(bench.says(way, SMALL, LINE));
            }
        }
    }

    private static void showSheets(PolyBench bench, StringBuilder all) {
        for (int sheet = 0; sheet < 4; sheet++) {
            all.append("; SHEET ").append(sheet).append(':');
            for (int sort = 0; sort < 3; sort++) {
                all.append(' ').append(bench.lay(0, sheet, sort, 0, 0));
                for (int i = 0; bench.lay(0, sheet, sort, i, 1) >= 0; i++) {
                    all.append(" item ").append(bench.at(0, 0));
                }
            }
        }
    }

    private static void due(String call, long got, long want) {
        if (got != want) {
            wrong++;
            System.out.println(promise + ": " + call + " answered " + got + ", due is " + want);
        }
    }

    /** A call is refused, twice in the same way, and later calls show the same as without it. */
    private static void refused(int[] kinds, Consumer<PolyBench> ahead, String call, long want,
            ToLongFunction<PolyBench> calling) {
        PolyBench called = furnished(kinds);
        PolyBench left = furnished(kinds);
        ahead.accept(called);
        ahead.accept(left);
        due(call, calling.applyAsLong(called), want);
        due(call + " again", calling.applyAsLong(called), want);
        String one = shown(called);
        String other = shown(left);
        if (!one.equals(other)) {
            wrong++;
            System.out.println(promise + ": " + call + " changed something:\n  " + one + "\nis to be\n  " + other);
        }
    }

    private static void refused(Consumer<PolyBench> ahead, String call, long want, ToLongFunction<PolyBench> calling) {
        refused(EVERY_KIND, ahead, call, want, calling);
    }

    private static void refused(String call, long want, ToLongFunction<PolyBench> calling) {
        refused(EVERY_KIND, bench -> { }, call, want, calling);
    }

    private static void noPoly(String call, long want, OfOne calling) {
        for (int none : NO_POLYS) {
            refused(call + " of POLY " + none, want, bench -> calling.call(bench, none));
        }
    }

    private static void noPolyOfTwo(String call, long want, OfTwo calling) {
        noPoly(call + ", first", want, (bench, none) -> calling.call(bench, none, SMALL));
        noPoly(call + ", second", want, (bench, none) -> calling.call(bench, SMALL, none));
        noPoly(call + ", both", want, (bench, none) -> calling.call(bench, none, none));
    }

    private static void noPolyOfThree(String call, long want, OfThree calling) {
        noPoly(call + ", to", want, (bench, none) -> calling.call(bench, none, SMALL, LINE));
        noPoly(call + ", a", want, (bench, none) -> calling.call(bench, 7, none, LINE));
        noPoly(call + ", b", want, (bench, none) -> calling.call(bench, 7, SMALL, none));
        noPoly(call + ", all", want, (bench, none) -> calling.call(bench, none, none, none));
    }

    // ---- the promises

    private static void ofNumbers() {
        promise = "Promise 2: put: BAD";
        noPoly("put", BAD, (bench, none) -> bench.put(none, 0, 1));
        for (int i : new int[] {-1, 32, LEAST, MOST}) {
            refused("put at " + i, BAD, bench -> bench.put(SMALL, i, 1));
            refused("put at " + i, BAD, bench -> bench.put(7, i, 1));
        }
        promise = "Promise 3: at: BAD";
        noPoly("at", BAD, (bench, none) -> bench.at(none, 0));
        noPoly("LENGTH", BAD, (bench, none) -> bench.at(none, -1));
        for (int i : new int[] {-2, 32, LEAST, MOST}) {
            refused("at of " + i, BAD, bench -> bench.at(SMALL, i));
        }
        promise = "Promise 4: clear: BAD";
        noPoly("clear", BAD, PolyBench::clear);
        promise = "Promise 5: sum: BAD";
        noPolyOfThree("sum", BAD, (bench, to, a, b) -> bench.sum(to, a, 2, b));
    }

    private static void eightWays(PolyBench bench) {
        bench.way(PLAIN, 1);
        bench.way(TURN, 1);
    }

    private static void ofWays() {
        promise = "Promise 6: way: BAD; FULL";
        for (int kind : new int[] {-1, 6, LEAST, MOST}) {
            refused("way of KIND " + kind, BAD, bench -> bench.way(kind, 1));
            refused(PolyBenchRefusals::eightWays, "BAD ahead of FULL", BAD, bench -> bench.way(kind, 1));
        }
        for (int cut : new int[] {0, -1, 17, LEAST, MOST}) {
            refused("way of CUT " + cut, BAD, bench -> bench.way(PLAIN, cut));
            refused(PolyBenchRefusals::eightWays, "BAD ahead of FULL", BAD, bench -> bench.way(PLAIN, cut));
        }
        for (int kind : EVERY_KIND) {
            refused(PolyBenchRefusals::eightWays, "the 9th WAY", FULL, bench -> bench.way(kind, 1));
        }
        promise = "Promise 7: times: BAD; FULL";
        for (int way : EVERY_KIND) {
            noPolyOfThree("times", BAD, (bench, to, a, b) -> bench.times(to, a, b, way));
            refused("17 by 17", FULL, bench -> bench.times(7, SEVENTEEN, SEVENTEEN, way));
            refused("17 by 17, to itself", FULL, bench -> bench.times(SEVENTEEN, SEVENTEEN, SEVENTEEN, way));
            refused("32 by 2", FULL, bench -> bench.times(7, LONGEST, LINE, way));
            refused("2 by 32", FULL, bench -> bench.times(7, LINE, LONGEST, way));
            refused("32 by 32", FULL, bench -> bench.times(LONGEST, LONGEST, LONGEST, way));
            noPoly("BAD ahead of FULL", BAD, (bench, none) -> bench.times(none, LONGEST, LONGEST, way));
        }
        promise = "Promise 8: cost: BAD; FULL";
        for (int way : EVERY_KIND) {
            noPolyOfTwo("cost", BAD, (bench, a, b) -> bench.cost(a, b, way));
            noPoly("BAD ahead of FULL", BAD, (bench, none) -> bench.cost(LONGEST, none, way));
        }
        for (int way : new int[] {TURN, TWICE}) {
            refused("17 and 17", FULL, bench -> bench.cost(SEVENTEEN, SEVENTEEN, way));
            refused("32 and 2", FULL, bench -> bench.cost(LONGEST, LINE, way));
            refused("32 and 32", FULL, bench -> bench.cost(LONGEST, LONGEST, way));
        }
        for (int way : new int[] {-1, 6, 7, 8, LEAST, MOST}) {
            promise = "Promise 7: times: BAD";
            refused("times by WAY " + way, BAD, bench -> bench.times(7, SMALL, LINE, way));
            refused("BAD ahead of FULL", BAD, bench -> bench.times(7, LONGEST, LONGEST, way));
            promise = "Promise 8: cost: BAD";
            refused("cost by WAY " + way, BAD, bench -> bench.cost(SMALL, LINE, way));
            refused("BAD ahead of FULL", BAD, bench -> bench.cost(LONGEST, LONGEST, way));
        }
    }

    private static void ofPlans() {
        int[][] few = {{}, {TURN}, {TWICE, TURN}};
        promise = "Promise 9: plan: BAD; NONE";
        noPolyOfTwo("plan", BAD, PolyBench::plan);
        refused(new int[0], bench -> { }, "plan of no WAY", NONE, bench -> bench.plan(SMALL, LINE));
        refused(new int[0], bench -> { }, "plan of no WAY for 0", NONE, bench -> bench.plan(ZERO, ZERO));
        for (int[] kinds : few) {
            refused(kinds, bench -> { }, "all are FULL", NONE, bench -> bench.plan(SEVENTEEN, SEVENTEEN));
            refused(kinds, bench -> { }, "all are FULL", NONE, bench -> bench.plan(LINE, LONGEST));
            refused(kinds, bench -> { }, "BAD ahead of NONE", BAD, bench -> bench.plan(8, LONGEST));
            refused(kinds, bench -> { }, "BAD ahead of NONE", BAD, bench -> bench.plan(LONGEST, -1));
        }
        promise = "Promise 10: planned: BAD; STATE: there is none; FULL";
        noPolyOfThree("planned", BAD, PolyBench::planned);
        noPoly("BAD ahead of FULL", BAD, (bench, none) -> bench.planned(none, LONGEST, LONGEST));
        refused(new int[0], bench -> { }, "no WAY", STATE, bench -> bench.planned(7, SMALL, LINE));
        refused(new int[0], bench -> { }, "no WAY for 0", STATE, bench -> bench.planned(7, ZERO, ZERO));
        for (int[] kinds : few) {
            refused(kinds, bench -> { }, "STATE ahead of FULL", STATE, bench -> bench.planned(7, LINE, LONGEST));
            refused(kinds, bench -> { }, "STATE ahead of FULL", STATE, bench -> bench.planned(SEVENTEEN, SEVENTEEN,
                    SEVENTEEN));
            refused(kinds, bench -> { }, "BAD ahead of STATE", BAD, bench -> bench.planned(8, LONGEST, LONGEST));
            refused(kinds, bench -> { }, "BAD ahead of STATE", BAD, bench -> bench.planned(7, -1, LONGEST));
            refused(kinds, bench -> { }, "BAD ahead of STATE", BAD, bench -> bench.planned(7, LONGEST, 8));
        }
        refused("17 by 17", FULL, bench -> bench.planned(7, SEVENTEEN, SEVENTEEN));
        refused("17 by 17, to itself", FULL, bench -> bench.planned(SEVENTEEN, SEVENTEEN, SEVENTEEN));
        refused("32 by 2", FULL, bench -> bench.planned(7, LONGEST, LINE));
        for (int kind : new int[] {0, 1, 2, 4}) {
            refused(new int[] {kind, TURN}, bench -> { }, "TURN alone is out", FULL,
                    bench -> bench.planned(7, SEVENTEEN, SEVENTEEN));
        }
    }

    private static void tape(PolyBench bench, int size) {
        write(bench, "plain 5;split 4;" + " ".repeat(size - 16));
    }

    private static void ofTexts() {
        promise = "Promise 11: feed: BAD: n is not 1 .. 8. FULL";
        for (int n : new int[] {0, -1, 9, LEAST, MOST}) {
            refused("feed of " + n, BAD, bench -> bench.feed(n, 0x20202020_20202020L));
            refused(bench -> tape(bench, 16), "feed of " + n, BAD, bench -> bench.feed(n, 0x20202020_20202020L));
            refused(bench -> tape(bench, 160), "BAD ahead of FULL", BAD, bench -> bench.feed(n, 0));
        }
        for (int n = 1; n <= 8; n++) {
            int size = 160 - n + 1;
            int many = n;
            refused(bench -> tape(bench, size), "feed behind " + size, FULL, bench -> bench.feed(many, 0));
            refused(bench -> tape(bench, 160), "feed behind 160", FULL, bench -> bench.feed(many, 0));
        }
        promise = "Promise 12: text: FULL (ahead of all): no TEXT more has room (THE TAPE stays)";
        for (String words : new String[] {"", "plain 1;split 2;turn 3;", "?", "plain 1;split"}) {
            refused(bench -> sixTexts(bench, words), "text of \"" + words + "\"", FULL, PolyBench::text);
        }
        promise = "Promise 12: text: a FAULT: no TEXT is made, THE TAPE is empty";
        fault("", 0);
        fault("?", 0);
        fault("plain 1;split 2;turn 3", 22);
        fault("plain 1;split 2;turn 3;;", 23);
        promise = "Promise 13: force: BAD";
        for (int text : new int[] {-1, 2, 3, 5, 6, LEAST, MOST}) {
            refused("force of " + text, BAD, bench -> bench.force(text));
        }
        promise = "Promise 14: says: NO: none such";
        noPolyOfTwo("says", PolyBench.NO, (bench, a, b) -> bench.says(0, a, b));
        for (int way : new int[] {-1, 6, 7, 8, LEAST, MOST}) {
            refused("says of WAY " + way, PolyBench.NO, bench -> bench.says(way, SMALL, LINE));
        }
        refused(new int[0], bench -> { }, "says of no WAY", PolyBench.NO, bench -> bench.says(0, SMALL, LINE));
    }

    private static void fault(String words, int place) {
        refused("text of \"" + words + "\"", -100 - place, bench -> {
            write(bench, words);
            return bench.text();
        });
    }

    private static void sixTexts(PolyBench bench, String words) {
        for (int text = 2; text < 6; text++) {
            write(bench, "plain 1;split 2;turn 3;");
            due("TEXT " + text, bench.text(), text);
        }
        write(bench, words);
        due("bytes of THE TAPE", bench.count(4), words.length());
    }

    private static void ofTwoPolys() {
        promise = "Promise 15: divide: BAD; STATE: b is 0";
        for (boolean rest : new boolean[] {false, true}) {
            noPolyOfThree("divide", BAD, (bench, to, a, b) -> bench.divide(to, a, b, rest));
            refused("by 0", STATE, bench -> bench.divide(7, SMALL, ZERO, rest));
            refused("0 by 0", STATE, bench -> bench.divide(7, ZERO, ZERO, rest));
            refused("by 0, to a", STATE, bench -> bench.divide(SMALL, SMALL, ZERO, rest));
            refused("by 0, to b", STATE, bench -> bench.divide(ZERO, SMALL, ZERO, rest));
            noPoly("BAD ahead of STATE", BAD, (bench, none) -> bench.divide(none, SMALL, ZERO, rest));
            noPoly("BAD ahead of STATE", BAD, (bench, none) -> bench.divide(7, none, ZERO, rest));
        }
        promise = "Promise 16: gcd: BAD";
        noPolyOfThree("gcd", BAD, PolyBench::gcd);
        promise = "Promise 17: cofactor: BAD";
        noPolyOfThree("cofactor", BAD, PolyBench::cofactor);
        promise = "Promise 18: compose: BAD; FULL";
        noPolyOfThree("compose", BAD, PolyBench::compose);
        refused("17 with 3: 33", FULL, bench -> bench.compose(7, SEVENTEEN, SQUARE));
        refused("3 with 17: 33", FULL, bench -> bench.compose(7, SQUARE, SEVENTEEN));
        refused("32 with 3, to a", FULL, bench -> bench.compose(LONGEST, LONGEST, SQUARE));
        refused("3 with 32, to b", FULL, bench -> bench.compose(LONGEST, SQUARE, LONGEST));
        refused("32 with 32, to both", FULL, bench -> bench.compose(LONGEST, LONGEST, LONGEST));
        noPoly("BAD ahead of FULL", BAD, (bench, none) -> bench.compose(none, LONGEST, LONGEST));
        promise = "Promise 19: move: BAD";
        noPolyOfTwo("move", BAD, (bench, to, a) -> bench.move(to, a, 1));
    }

    private static void ofRoots() {
        promise = "Promise 20: root: BAD: no such POLY; STATE: it is 0; NONE: none such (i below -1, too)";
        for (int i : new int[] {-2, -1, 0, 1, 31, LEAST, MOST}) {
            noPoly("root " + i, BAD, (bench, none) -> bench.root(none, i));
            refused("root " + i + " of 0", STATE, bench -> bench.root(ZERO, i));
        }
        for (int i : new int[] {-2, -3, 1, 2, 31, 32, LEAST, MOST}) {
            refused("root " + i + " of one", NONE, bench -> bench.root(LINE, i));
        }
        for (int i : new int[] {-2, 0, 1, LEAST, MOST}) {
            refused(bench -> bench.put(LINE, 1, 0), "root " + i + " of a NUMBER", NONE, bench -> bench.root(LINE, i));
        }
        promise = "Promise 21: order: BAD; STATE: it is 0";
        for (int x : new int[] {0, 1, 97, LEAST, MOST}) {
            noPoly("order of " + x, BAD, (bench, none) -> bench.order(none, x));
            refused("order of " + x + " in 0", STATE, bench -> bench.order(ZERO, x));
        }
    }

    private static void ofPlaces() {
        promise = "Promise 22: place: FULL";
        for (int x : new int[] {0, 50, LEAST, MOST}) {
            refused(PolyBenchRefusals::sixteenPlaces, "the 17th PLACE " + x, FULL, bench -> bench.place(x));
        }
        promise = "Promise 24: see: BAD";
        for (int i : new int[] {-1, ITS_PLACES, 15, 16, LEAST, MOST}) {
            refused("see of PLACE " + i, BAD, bench -> bench.see(i, 50));
        }
        refused(PolyBench::leave, "see of no PLACE", BAD, bench -> bench.see(0, 50));
        refused(PolyBenchRefusals::sixteenPlaces, "see of PLACE 16", BAD, bench -> bench.see(16, 50));
        promise = "Promise 25: told: BAD";
        for (int what : new int[] {0, 1}) {
            for (int i : new int[] {-1, ITS_PLACES, 15, 16, LEAST, MOST}) {
                refused("told of PLACE " + i, BAD, bench -> bench.told(i, what));
            }
            refused(PolyBench::leave, "told of no PLACE", BAD, bench -> bench.told(0, what));
        }
        for (int what : new int[] {-1, 2, LEAST, MOST}) {
            refused("told " + what, BAD, bench -> bench.told(0, what));
            refused("told " + what, BAD, bench -> bench.told(ITS_PLACES, what));
        }
        promise = "Promise 26: value: BAD";
        noPoly("value", BAD, (bench, none) -> bench.value(none, 0));
        for (int i : new int[] {-1, ITS_PLACES, 15, 16, LEAST, MOST}) {
            refused("value at PLACE " + i, BAD, bench -> bench.value(SMALL, i));
            refused("value of none at PLACE " + i, BAD, bench -> bench.value(8, i));
        }
        refused(PolyBench::leave, "value at no PLACE", BAD, bench -> bench.value(SMALL, 0));
        promise = "Promise 27: look: BAD";
        noPoly("look", BAD, PolyBench::look);
        promise = "Promise 28: fill: BAD";
        noPoly("fill", BAD, PolyBench::fill);
        promise = "Promise 31: power: BAD";
        for (int j : new int[] {-1, 1000, LEAST, MOST}) {
            refused("power " + j, BAD, bench -> bench.power(j));
        }
        promise = "Promise 32: count: BAD";
        for (int what : new int[] {-1, 6, LEAST, MOST}) {
            refused("count of " + what, BAD, bench -> bench.count(what));
        }
    }

    private static void sixteenPlaces(PolyBench bench) {
        for (int i = ITS_PLACES; i < 16; i++) {
            bench.place(2 * i);
            bench.see(i, i);
        }
    }

    private static void ofRight() {
        promise = "Promise 29: right: BAD; STATE: two PLACES are alike; NONE: there is none such";
        for (int k : new int[] {0, -1, ITS_PLACES + 1, 16, 17, LEAST, MOST}) {
            refused("right for " + k, BAD, bench -> bench.right(7, k));
            refused(bench -> bench.place(3), "right for 0, and alike", BAD, bench -> bench.right(7, 0));
        }
        for (int k = 0; k < 3; k++) {
            int length = k;
            refused(PolyBench::leave, "right of no PLACES", BAD, bench -> bench.right(7, length));
        }
        noPoly("right", BAD, (bench, none) -> bench.right(none, 5));
        noPoly("BAD ahead of NONE", BAD, (bench, none) -> bench.right(none, 1));
        for (int again : new int[] {3, 1, 4, 96, 5, 100, -94, -1}) {
            Consumer<PolyBench> alike = bench -> bench.place(again);
            for (int k = 1; k <= ITS_PLACES + 1; k++) {
                int length = k;
                refused(alike, "right of alike for " + k, STATE, bench -> bench.right(7, length));
            }
            refused(alike, "BAD ahead of STATE", BAD, bench -> bench.right(7, 0));
            refused(alike, "BAD ahead of STATE", BAD, bench -> bench.right(7, ITS_PLACES + 2));
            refused(alike, "BAD ahead of STATE", BAD, bench -> bench.right(8, 1));
        }
        // VALUES 2, 7, 1, 8, 2 have no one thrice, and FILLED has LENGTH 5: its c(4) is 40.
        refused("right for 1: 2 of 5 may be wrong", NONE, bench -> bench.right(7, 1));
        refused("right for 4: none may be wrong", NONE, bench -> bench.right(7, 4));
        refused("right for 4, to one that is long", NONE, bench -> bench.right(LONGEST, 4));
    }

    private static void ofRelation() {
        promise = "Promise 30: relation: BAD; STATE: r(j) isn't told";
        Consumer<PolyBench> told = bench -> values(bench, 1, 2, 4, 8, 16);
        for (int j : new int[] {-1, 2, 3, 5, 6, 16, 17, LEAST, MOST}) {
            refused(told, "relation " + j + " of SIZE 1", BAD, bench -> bench.relation(j));
        }
        Consumer<PolyBench> untold = bench -> values(bench, 0, 0, 1, 0, 0);
        for (int j = 1; j <= 3; j++) {
            int number = j;
            refused(untold, "relation " + j + " of SIZE 3 of 5", STATE, bench -> bench.relation(number));
        }
        for (int j : new int[] {-1, 4, 5, 6, 16, 17, LEAST, MOST}) {
            refused(untold, "BAD ahead of STATE", BAD, bench -> bench.relation(j));
        }
        for (int j : new int[] {-1, 1, 2, LEAST, MOST}) {
            refused(PolyBench::leave, "relation of no PLACES", BAD, bench -> bench.relation(j));
        }
    }

    private static void ofSheets() {
        promise = "Promise 34: sheet: BAD: no such SHEET, sort; n above 40; -14";
        for (int sheet : NO_SHEETS) {
            for (int sort = -1; sort < 3; sort++) {
                int one = sort;
                refused("SHEET " + sheet, BAD, bench -> bench.sheet(sheet, one, 2));
                refused("BAD ahead of -14", BAD, bench -> bench.sheet(sheet, one, -1));
                refused("BAD ahead of -14", BAD, bench -> bench.sheet(sheet, one, LEAST));
            }
        }
        for (int sort : new int[] {-2, 3, LEAST, MOST}) {
            for (int sheet = 0; sheet < 4; sheet++) {
                int one = sheet;
                refused("sort " + sort, BAD, bench -> bench.sheet(one, sort, 2));
                refused("BAD ahead of -14", BAD, bench -> bench.sheet(one, sort, -1));
            }
        }
        for (int sort = 0; sort < 3; sort++) {
            for (int sheet = 0; sheet < 4; sheet++) {
                int one = sheet;
                int its = sort;
                refused("41 of sort " + sort, BAD, bench -> bench.sheet(one, its, 41));
                refused("the most of sort " + sort, BAD, bench -> bench.sheet(one, its, MOST));
                refused("-1 of sort " + sort, BELOW, bench -> bench.sheet(one, its, -1));
                refused("the least of sort " + sort, BELOW, bench -> bench.sheet(one, its, LEAST));
            }
        }
        promise = "Promise 35: cell: BAD: no such SHEET; -11; -12";
        for (int i : new int[] {-1, 3, 39, 40, LEAST, MOST}) {
            for (int sheet : NO_SHEETS) {
                refused("BAD ahead of -12", BAD, bench -> bench.cell(sheet, i, 1));
            }
            refused("-11 ahead of -12", NOTHING, bench -> bench.cell(MISSING, i, 1));
            for (int sheet = 0; sheet < 3; sheet++) {
                int one = sheet;
                refused("cell " + i + " of 3", OUTSIDE, bench -> bench.cell(one, i, 1));
            }
        }
        refused("cell of a missing one", NOTHING, bench -> bench.cell(MISSING, 0, 1));
        refused(bench -> bench.sheet(INTS, -1, 3), "cell of one that went", NOTHING, bench -> bench.cell(INTS, 0, 1));
        refused(bench -> bench.sheet(INTS, 2, 0), "cell of an empty one", OUTSIDE, bench -> bench.cell(INTS, 0, 1));
    }

    private static void ofLay() {
        promise = "Promise 36: lay: BAD: no such POLY, SHEET, sort, n; -13; -11; -12: nothing comes";
        noPoly("lay", BAD, (bench, none) -> bench.lay(none, INTS, 2, 0, 3));
        noPoly("BAD ahead of -13", BAD, (bench, none) -> bench.lay(none, INTS, 0, 0, 3));
        noPoly("BAD ahead of -11", BAD, (bench, none) -> bench.lay(none, MISSING, 0, 0, 3));
        noPoly("BAD ahead of -12", BAD, (bench, none) -> bench.lay(none, INTS, 2, 9, 3));
        for (int sheet : NO_SHEETS) {
            refused("lay of SHEET " + sheet, BAD, bench -> bench.lay(7, sheet, 2, 0, 3));
            refused("BAD ahead of -12", BAD, bench -> bench.lay(7, sheet, 2, -1, 3));
        }
        for (int sort : new int[] {-1, -2, 3, LEAST, MOST}) {
            refused("lay of sort " + sort, BAD, bench -> bench.lay(7, INTS, sort, 0, 3));
            refused("BAD ahead of -11", BAD, bench -> bench.lay(7, MISSING, sort, 0, 3));
            refused("BAD ahead of -12", BAD, bench -> bench.lay(7, INTS, sort, 9, 3));
        }
        for (int n : new int[] {-1, 33, LEAST, MOST}) {
            refused("lay of " + n, BAD, bench -> bench.lay(7, INTS, 2, 0, n));
            refused("BAD ahead of -13", BAD, bench -> bench.lay(7, INTS, 1, 0, n));
            refused("BAD ahead of -11", BAD, bench -> bench.lay(7, MISSING, 1, 0, n));
            refused("BAD ahead of -12", BAD, bench -> bench.lay(7, INTS, 2, -1, n));
        }
        for (int sheet = 0; sheet < 3; sheet++) {
            for (int step = 1; step < 3; step++) {
                int one = sheet;
                int other = (sheet + step) % 3;
                refused("lay of sort " + other, OTHER, bench -> bench.lay(7, one, other, 0, 3));
                refused("-13 ahead of -12", OTHER, bench -> bench.lay(7, one, other, 0, 4));
                refused("-13 ahead of -12", OTHER, bench -> bench.lay(7, one, other, -1, 1));
                refused("-13 where n is 0", OTHER, bench -> bench.lay(7, one, other, 0, 0));
            }
            laysOutside(sheet);
        }
        for (int sort = 0; sort < 3; sort++) {
            int one = sort;
            refused("lay of a missing one", NOTHING, bench -> bench.lay(7, MISSING, one, 0, 1));
            refused("-11 ahead of -12", NOTHING, bench -> bench.lay(7, MISSING, one, -1, 1));
            refused("-11 where n is 0", NOTHING, bench -> bench.lay(7, MISSING, one, 0, 0));
            refused(bench -> bench.sheet(INTS, -1, 3), "lay of one that went", NOTHING,
                    bench -> bench.lay(7, INTS, one, 0, 1));
        }
        refused(bench -> bench.sheet(BYTES, 0, 0), "lay of an empty one", OUTSIDE,
                bench -> bench.lay(7, BYTES, 0, 0, 1));
    }

    private static void laysOutside(int sheet) {
        int[][] outside = {{-1, 1}, {-1, 3}, {-1, 4}, {3, 1}, {2, 2}, {1, 3}, {0, 4}, {0, 32}, {LEAST, 1}, {LEAST, 32},
            {MOST, 1}, {MOST, 32}, {-32, 32}};
        for (int[] one : outside) {
            refused("lay of " + one[1] + " from " + one[0] + " on", OUTSIDE,
                    bench -> bench.lay(LONGEST, sheet, sheet, one[0], one[1]));
        }
    }

    private static void ofTaken() {
        promise = "Promise 37: taken: BAD: k; -11: no such WAY; -13";
        for (int k : new int[] {-1, 6, LEAST, MOST}) {
            refused("taken for KIND " + k, BAD, bench -> bench.taken(0, k));
            refused("BAD ahead of -11", BAD, bench -> bench.taken(6, k));
            refused("BAD ahead of -11", BAD, bench -> bench.taken(-1, k));
        }
        for (int way : new int[] {-1, 6, 7, 8, LEAST, MOST}) {
            for (int k : EVERY_KIND) {
                refused("taken of WAY " + way, NOTHING, bench -> bench.taken(way, k));
            }
        }
        int[][] others = {{1, 2, 3, 4, 5}, {2, 3, 4, 5}, {3, 4, 5}, {1, 2, 4, 5}, {3, 5}, {1, 2, 4}};
        for (int way = 0; way < 6; way++) {
            int one = way;
            for (int k : others[way]) {
                refused("KIND " + way + " for KIND " + k, OTHER, bench -> bench.taken(one, k));
            }
        }
    }

    /** What only asks changes nothing, either. */
    private static void whatOnlyAsks() {
        promise = "what only asks changes nothing";
        Consumer<PolyBench> ahead = bench -> tape(bench, 20);
        refused(ahead, "at", 3, bench -> bench.at(SMALL, -1));
        refused(ahead, "cost", 6, bench -> bench.cost(SMALL, LINE, 0));
        refused(ahead, "cost of 33", 289, bench -> bench.cost(SEVENTEEN, SEVENTEEN, 0));
        refused(ahead, "plan", 0, bench -> bench.plan(SMALL, LINE));
        refused(ahead, "says", 11, bench -> bench.says(1, SMALL, LINE));
        // 5 * 38 is 2 * 97 - 4
        refused(ahead, "root", 38, bench -> bench.root(LINE, 0));
        refused(ahead, "order", 1, bench -> bench.order(LINE, 38));
        refused(ahead, "told", 4, bench -> bench.told(2, 0));
        refused(ahead, "value", 34, bench -> bench.value(SMALL, 0));
        refused(ahead, "relation", 3, bench -> bench.relation(0));
        refused(ahead, "power", 20, bench -> bench.power(0));
        refused(ahead, "count", 97, bench -> bench.count(0));
        // 1 + 2 x + 3 x^2 times 9 by PLAIN
        refused(ahead, "counted", 3, PolyBench::counted);
        refused(ahead, "taken", 6, bench -> bench.taken(4, 1));
    }
}
