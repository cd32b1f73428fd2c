import java.util.LinkedHashMap;
import java.util.Map;
import java.util.TreeMap;
import java.util.function.Consumer;
import java.util.function.ToLongFunction;

/**
 * "Nothing is promised beyond the answers and state changes described above": for each promise a call that isn't
 * refused, its answer, and what it changes, all of it and nothing else. Two benches are made alike, one is called, then
 * both are read out whole; what may differ is told with the call, as worked out from the document.
 */
public final class PolyBenchChanges {
    private static final int PLAIN = 0, TURN = 3, TWICE = 5;
    // The POLYS of a furnished bench.
    private static final int SMALL = 0, LINE = 1, CUBE = 2, SEVEN = 3, ZERO = 4, ONES = 5, THREE_ROOTS = 6, LAST = 7;
    private static final int BYTES = 0, SHORTS = 1, INTS = 2, MISSING = 3;
    private static final String GONE = "gone";

    private static String promise = "";
    private static int wrong = 0;

    public static void main(String[] args) {
        ofNumbers();
        ofWays();
        ofTexts();
        ofTwo();
        ofPlaces();
        ofHost();
        ofTwoBenches();
        System.out.println(wrong == 0 ? "all changes are as due" : wrong + " changes are not as due");
        if (wrong != 0) {
            System.exit(1);
        }
    }

    // ---- benches, and what they show

    private static void row(PolyBench bench, int poly, int... numbers) {
        bench.clear(poly);
        for (int i = 0; i < numbers.length; i++) {
            bench.put(poly, i, numbers[i]);
        }
    }

    private static void write(PolyBench bench, String words) {
        for (int i = 0; i < words.length(); i++) {
            bench.feed(1, words.charAt(i));
        }
    }

    /** A bench with something of everything; PRIME is 97. Half a TEXT is on THE TAPE. */
    private static PolyBench furnished() {
        PolyBench bench = new PolyBench(0);
        row(bench, SMALL, 1, 2, 3);
        row(bench, LINE, 4, 5);
        row(bench, CUBE, 0, 0, 0, 6);
        row(bench, SEVEN, 7);
        row(bench, ONES, 1, 1, 1, 1, 1);
        // (x + 2) (x + 3) (x + 5)
        row(bench, THREE_ROOTS, 30, 31, 10, 1);
        row(bench, LAST, 9);
        for (int kind = 0; kind < 6; kind++) {
            bench.way(kind, kind + 2);
        }
        bench.times(LAST, SEVEN, LAST, PLAIN);
        write(bench, "plain 7;split n+8;turn m+9;");
        bench.force(bench.text());
        write(bench, "plain 5");
        int[] places = {3, 1, 4, 96, 5};
        int[] values = {2, 7, 1, 8, 2};
        for (int i = 0; i < places.length; i++) {
            bench.place(places[i]);
            bench.see(i, values[i]);
        }
        for (int sheet = 0; sheet < MISSING; sheet++) {
            bench.sheet(sheet, sheet, 3);
            bench.cell(sheet, 0, 11 + sheet);
            bench.cell(sheet, 2, -1 - sheet);
        }
        return bench;
    }

    /** All that can be asked of a bench, at last by calls that change it: it is not used further. */
    private static Map<String, String> shown(PolyBench bench) {
        Map<String, String> all = new LinkedHashMap<>();
        for (int poly = 0; poly < 8; poly++) {
            StringBuilder numbers = new StringBuilder();
            int length = bench.at(poly, -1);
            for (int i = 0; i < length; i++) {
                numbers.append(i == 0 ? "" : " ").append(bench.at(poly, i));
            }
            all.put("POLY " + poly, numbers.toString());
        }
        String[] counts = {"PRIME", "WAYS", "PLACES", "TEXTS", "BYTES", "RULE"};
        for (int what = 0; what < counts.length; what++) {
            all.put(counts[what], "" + bench.count(what));
        }
        all.put("COUNTED", "" + bench.counted());
        for (int i = 0; i < bench.count(2); i++) {
            all.put("PLACE " + i, bench.told(i, 0) + " " + bench.told(i, 1));
        }
        for (int way = 0; way < bench.count(1); way++) {
            StringBuilder kinds = new StringBuilder();
            for (int k = 0; k < 6; k++) {
                kinds.append(k == 0 ? "" : " ").append(bench.taken(way, k));
            }
            all.put("WAY " + way, kinds.toString());
        }
        showTexts(bench, all);
        showSheets(bench, all);
        return all;
    }

    private static void showTexts(PolyBench bench, Map<String, String> all) {
        row(bench, SMALL, 1, 2, 3);
        row(bench, LINE, 4, 5);
        int many = bench.count(3);
        showWorths(bench, all, many, "TEXT ");
        // What stands on THE TAPE is seen when the rest of a TEXT comes behind it.
        write(bench, ";split 6;turn 8;");
        int read = bench.text();
        all.put("TAPE", "" + read);
        if (read >= 0) {
            showWorths(bench, all, read + 1, "TAPE as TEXT ");
        }
    }

    private static void showWorths(PolyBench bench, Map<String, String> all, int many, String name) {
        for (int text = 0; text < many; text++) {
            bench.force(text);
            all.put(name + text, bench.says(PLAIN, SMALL, LINE) + " " + bench.says(1, SMALL, LINE) + " "
                    + bench.says(TURN, SMALL, LINE));
        }
    }

    private static void showSheets(PolyBench bench, Map<String, String> all) {
        for (int sheet = 0; sheet < 4; sheet++) {
            StringBuilder items = new StringBuilder("missing");
            for (int sort = 0; sort < 3; sort++) {
                if (bench.lay(0, sheet, sort, 0, 0) != 0) {
                    continue;
                }
                items = new StringBuilder("of sort " + sort + ":");
                for (int i = 0; bench.lay(0, sheet, sort, i, 1) >= 0; i++) {
                    items.append(' ').append(bench.at(0, 0));
                }
            }
            all.put("SHEET " + sheet, items.toString());
        }
    }

    // ---- what is due

    private static void tell(String what) {
        wrong++;
        System.out.println(promise + ": " + what);
    }

    /** The changes are told as a name and what it shows then, by turns; GONE: it isn't shown any more. */
    private static void changes(Consumer<PolyBench> ahead, String call, ToLongFunction<PolyBench> calling, long answer,
            String... changed) {
        PolyBench called = furnished();
        PolyBench left = furnished();
        ahead.accept(called);
        ahead.accept(left);
        long got = calling.applyAsLong(called);
        if (got != answer) {
            tell(call + " answered " + got + ", due is " + answer);
        }
        Map<String, String> due = shown(left);
        for (int i = 0; i + 1 < changed.length; i += 2) {
            due.put(changed[i], changed[i + 1]);
        }
        due.values().removeIf(GONE::equals);
        compare(call, shown(called), due);
    }

    private static void changes(String call, ToLongFunction<PolyBench> calling, long answer, String... changed) {
        changes(bench -> { }, call, calling, answer, changed);
    }

    private static void compare(String call, Map<String, String> got, Map<String, String> due) {
        Map<String, String> names = new TreeMap<>(due);
        names.putAll(got);
        for (String name : names.keySet()) {
            String one = got.getOrDefault(name, GONE);
            String other = due.getOrDefault(name, GONE);
            if (!one.equals(other)) {
                tell("after " + call + ", " + name + " is \"" + one + "\", due is \"" + other + "\"");
            }
        }
    }

    // ---- the promises

    private static void ofNumbers() {
        promise = "Promise 2: put";
        changes("put", bench -> bench.put(SEVEN, 4, -1), 0, "POLY 3", "7 0 0 0 96");
        changes("put of a LEAD", bench -> bench.put(SMALL, 2, 97), 3, "POLY 0", "1 2");
        changes("put of the same", bench -> bench.put(SMALL, 2, 100), 3);
        promise = "Promise 3: at";
        changes("at", bench -> bench.at(SMALL, 2), 3);
        changes("LENGTH", bench -> bench.at(ONES, -1), 5);
        promise = "Promise 4: clear";
        changes("clear", bench -> bench.clear(ONES), 5, "POLY 5", "");
        changes("clear of 0", bench -> bench.clear(ZERO), 0);
        promise = "Promise 5: sum";
        changes("sum", bench -> bench.sum(LAST, SMALL, 2, LINE), 3, "POLY 7", "6 9 6");
        changes("sum to a", bench -> bench.sum(SMALL, SMALL, 2, LINE), 3, "POLY 0", "6 9 6");
        changes("sum to b", bench -> bench.sum(LINE, SMALL, 2, LINE), 3, "POLY 1", "6 9 6");
        changes("sum that is 0", bench -> bench.sum(LAST, SMALL, -1, SMALL), 0, "POLY 7", "");
    }

    private static void ofWays() {
        promise = "Promise 6: way";
        changes("way", bench -> bench.way(TWICE, 16), 6, "WAYS", "7", "WAY 6", "16 -13 -13 16 -13 16");
        promise = "Promise 7: times";
        changes("times by PLAIN", bench -> bench.times(LAST, SMALL, LINE, PLAIN), 6,
                "POLY 7", "4 13 22 15", "COUNTED", "7");
        changes("times by TURN, to b", bench -> bench.times(LINE, SMALL, LINE, TURN), 16,
                "POLY 1", "4 13 22 15", "COUNTED", "17");
        changes("times by TWICE, of one to itself", bench -> bench.times(SMALL, SMALL, SMALL, TWICE), 32,
                "POLY 0", "1 4 10 12 9", "COUNTED", "33");
        changes("times of 0", bench -> bench.times(LAST, ZERO, LINE, TURN), 0, "POLY 7", "");
        promise = "Promise 8: cost";
        changes("cost", bench -> bench.cost(SMALL, LINE, PLAIN), 6);
        promise = "Promise 9: plan";
        changes("plan", bench -> bench.plan(SMALL, LINE), 0);
        promise = "Promise 10: planned";
        changes("planned", bench -> bench.planned(LAST, SMALL, LINE), 0, "POLY 7", "4 13 22 15", "COUNTED", "7");
        changes("planned, to a", bench -> bench.planned(SMALL, SMALL, LINE), 0,
                "POLY 0", "4 13 22 15", "COUNTED", "7");
    }

    private static void ofTexts() {
        promise = "Promise 11: feed";
        changes("feed", bench -> bench.feed(2, '+' | '1' << 8), 9, "BYTES", "9", "TAPE as TEXT 2", "6 6 8");
        changes("feed of what lies above", bench -> bench.feed(1, '2' | 99 << 8), 8,
                "BYTES", "8", "TAPE as TEXT 2", "52 6 8");
        promise = "Promise 12: text";
        changes(bench -> write(bench, ";split n;turn 2;"), "text", PolyBench::text, 2, "TEXTS", "3", "BYTES", "0",
                "TEXT 2", "5 3 2", "TAPE", "-100", "TAPE as TEXT 2", GONE, "TAPE as TEXT 0", GONE,
                "TAPE as TEXT 1", GONE);
        changes("text with a FAULT", PolyBench::text, -107, "BYTES", "0", "TAPE", "-100", "TAPE as TEXT 0", GONE,
                "TAPE as TEXT 1", GONE, "TAPE as TEXT 2", GONE);
        promise = "Promise 13: force";
        changes("force", bench -> bench.force(0), 1, "RULE", "0");
        changes("force of the same", bench -> bench.force(1), 1);
        promise = "Promise 14: says";
        changes("says", bench -> bench.says(1, SMALL, LINE), 11);
    }

    private static void ofTwo() {
        promise = "Promise 15: divide";
        changes("QUOTIENT", bench -> bench.divide(LAST, THREE_ROOTS, SEVEN, false), 4, "POLY 7", "32 46 43 14");
        changes("REST", bench -> bench.divide(LAST, THREE_ROOTS, SMALL, true), 2, "POLY 7", "70 46");
        changes("REST, to b", bench -> bench.divide(SMALL, THREE_ROOTS, SMALL, true), 2, "POLY 0", "70 46");
        promise = "Promise 16: gcd";
        changes("gcd", bench -> bench.gcd(LAST, SMALL, ZERO), 3, "POLY 7", "65 33 1");
        changes("gcd, to a", bench -> bench.gcd(SMALL, SMALL, ZERO), 3, "POLY 0", "65 33 1");
        changes("gcd that shares nothing", bench -> bench.gcd(LAST, LINE, CUBE), 1, "POLY 7", "1");
        promise = "Promise 17: cofactor";
        changes("cofactor", bench -> bench.cofactor(LAST, LINE, CUBE), 3, "POLY 7", "73 30 11");
        changes("cofactor, to a", bench -> bench.cofactor(LINE, LINE, CUBE), 3, "POLY 1", "73 30 11");
        changes("cofactor by 0", bench -> bench.cofactor(LAST, SMALL, ZERO), 1, "POLY 7", "65");
        promise = "Promise 18: compose";
        changes("compose", bench -> bench.compose(LAST, SMALL, LINE), 3, "POLY 7", "57 33 75");
        changes("compose, to b", bench -> bench.compose(LINE, SMALL, LINE), 3, "POLY 1", "57 33 75");
        promise = "Promise 19: move";
        changes("move", bench -> bench.move(LAST, SMALL, 2), 3, "POLY 7", "17 14 3");
        changes("move, to a", bench -> bench.move(SMALL, SMALL, 2), 3, "POLY 0", "17 14 3");
        promise = "Promise 20: root";
        changes("how many ROOTS", bench -> bench.root(THREE_ROOTS, -1), 3);
        changes("a ROOT", bench -> bench.root(THREE_ROOTS, 0), 92);
        changes("the last ROOT", bench -> bench.root(THREE_ROOTS, 2), 95);
        promise = "Promise 21: order";
        changes("order", bench -> bench.order(THREE_ROOTS, 92), 1);
        changes("order in x^3", bench -> bench.order(CUBE, 0), 3);
    }

    private static void ofPlaces() {
        promise = "Promise 22: place";
        changes("place", bench -> bench.place(100), 5, "PLACES", "6", "PLACE 5", "3 0");
        promise = "Promise 23: leave";
        changes("leave", PolyBench::leave, 5, "PLACES", "0", "PLACE 0", GONE, "PLACE 1", GONE, "PLACE 2", GONE,
                "PLACE 3", GONE, "PLACE 4", GONE);
        promise = "Promise 24: see";
        changes("see", bench -> bench.see(2, -1), 1, "PLACE 2", "4 96");
        promise = "Promise 25: told";
        changes("told", bench -> bench.told(2, 0), 4);
        promise = "Promise 26: value";
        changes("value", bench -> bench.value(SMALL, 0), 34);
        promise = "Promise 27: look";
        changes("look", bench -> bench.look(LINE), 5, "PLACE 0", "3 19", "PLACE 1", "1 9", "PLACE 2", "4 24",
                "PLACE 3", "96 96", "PLACE 4", "5 29");
        promise = "Promise 28: fill";
        changes(bench -> bench.look(LINE), "fill", bench -> bench.fill(LAST), 2, "POLY 7", "4 5");
        changes(PolyBench::leave, "fill of no PLACES", bench -> bench.fill(LAST), 0, "POLY 7", "");
        promise = "Promise 29: right";
        Consumer<PolyBench> spoilt = bench -> {
            bench.look(LINE);
            bench.see(2, 50);
        };
        changes(spoilt, "right", bench -> bench.right(LAST, 2), 1, "POLY 7", "4 5");
        changes(bench -> bench.look(LINE), "right where none is wrong", bench -> bench.right(SMALL, 4), 0,
                "POLY 0", "4 5");
        promise = "Promise 30: relation";
        changes("SIZE", bench -> bench.relation(0), 3);
        // 1, 2, 4, 8, 16: twice the one ahead
        Consumer<PolyBench> doubled = bench -> {
            for (int i = 0; i < 5; i++) {
                bench.see(i, 1 << i);
            }
        };
        changes(doubled, "r(1)", bench -> bench.relation(1), 2);
        promise = "Promise 31: power";
        // 3 * 2 + 1 * 7 + 4 * 1 - 1 * 8 + 5 * 2
        changes("power", bench -> bench.power(1), 19);
        promise = "Promise 32: count";
        changes("count", bench -> bench.count(4), 7);
        promise = "Promise 33: counted";
        changes("counted", PolyBench::counted, 1);
    }

    private static void ofHost() {
        promise = "Promise 34: sheet";
        changes("sheet", bench -> bench.sheet(BYTES, 2, 2), 1, "SHEET 0", "of sort 2: 0 0");
        changes("sheet of the same", bench -> bench.sheet(INTS, 2, 3), 1, "SHEET 2", "of sort 2: 0 0 0");
        changes("sheet that goes missing", bench -> bench.sheet(SHORTS, -1, 41), 1, "SHEET 1", "missing");
        changes("sheet that was missing", bench -> bench.sheet(MISSING, 0, 1), 1, "SHEET 3", "of sort 0: 0");
        promise = "Promise 35: cell";
        changes("cell", bench -> bench.cell(BYTES, 1, 300), 1, "SHEET 0", "of sort 0: 11 44 96");
        changes("cell", bench -> bench.cell(SHORTS, 1, 300), 1, "SHEET 1", "of sort 1: 12 9 95");
        promise = "Promise 36: lay";
        changes("lay", bench -> bench.lay(LAST, SHORTS, 1, 0, 3), 3, "POLY 7", "12 0 95");
        changes("lay of some", bench -> bench.lay(ONES, INTS, 2, 0, 2), 1, "POLY 5", "13");
        changes("lay of none", bench -> bench.lay(SMALL, INTS, 2, 99, 0), 0, "POLY 0", "");
        promise = "Promise 37: taken";
        changes("taken", bench -> bench.taken(4, 1), 6);
    }

    /** LANGUAGE.md, rule 5: no other static state. What one bench is told, another does not show. */
    private static void ofTwoBenches() {
        promise = "Promise 1: a new object";
        PolyBench one = furnished();
        PolyBench other = new PolyBench(3);
        Map<String, String> fresh = shown(new PolyBench(3));
        PolyBench used = furnished();
        busy(used);
        compare("making others", shown(other), fresh);
        compare("calls of another", shown(one), shown(furnished()));
        PolyBench busy = new PolyBench(1);
        PolyBench quiet = new PolyBench(2);
        busy(busy);
        compare("calls of a busy one", shown(quiet), shown(new PolyBench(2)));
    }

    private static void busy(PolyBench bench) {
        bench.put(SMALL, 31, 5);
        bench.way(PLAIN, 16);
        bench.times(ONES, SMALL, SMALL, 0);
        bench.divide(CUBE, SMALL, LINE, false);
        bench.gcd(CUBE, SMALL, LINE);
        write(bench, ";split 99;turn 98;");
        bench.force(bench.text());
        write(bench, "plain 97;split 99;turn 98;");
        bench.force(bench.text());
        write(bench, "plain");
        bench.leave();
        bench.place(50);
        bench.see(0, 51);
        bench.fill(ZERO);
        bench.sheet(MISSING, 2, 40);
        bench.cell(MISSING, 39, 52);
        bench.sheet(INTS, -1, 0);
    }
}
