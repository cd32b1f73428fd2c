import java.util.ArrayList;
import java.util.Arrays;
import java.util.List;

/**
 * Long runs of drawn calls, each answer compared with that of a second bench, which works everything out by other
 * ways: what the document says is sought by trying or by solving rows of equations, not by Euclid, Newton or Massey.
 * The draws come from a fixed row of numbers, so every run is the same each time.
 */
public final class PolyBenchAgainstModel {
    private static final int RUNS = 8000;
    // An object is used for 512 calls; the dearest step of a run makes some 150.
    private static final int CALLS = 512, STEP = 150;
    private static int wrong = 0;

    public static void main(String[] args) {
        for (int run = 0; run < RUNS && wrong < 20; run++) {
            new Run(run).go();
        }
        System.out.println(wrong == 0 ? "all answers are as the model's" : wrong + " answers differ from the model's");
        if (wrong != 0) {
            System.exit(1);
        }
    }

    /** One object with its model, and the calls that it is given. */
    private static final class Run {
        private final int number;
        private final PolyBench bench;
        private final Model model;
        private final int theme;
        private long seed;
        private int calls;

        Run(int number) {
            this.number = number;
            seed = number * 7919L + 12345;
            int which = draw(9) - 4;
            bench = new PolyBench(which);
            model = new Model(which);
            theme = number % 6;
        }

        int draw(int below) {
            seed = seed * 6364136223846793005L + 1442695040888963407L;
            return (int) Math.floorMod(seed >>> 33, (long) below);
        }

        void go() {
            for (int call = 0; calls <= CALLS - STEP && wrong < 20; call++) {
                one(call);
            }
            for (int poly = 0; poly < 8 && calls <= CALLS - 34; poly++) {
                samePoly(poly);
            }
            if (calls > CALLS) {
                throw new IllegalStateException("a run of " + calls + " calls");
            }
        }

        private void same(String call, long got, long want) {
            calls++;
            if (got != want) {
                wrong++;
                System.out.println("run " + number + ": " + call + " answered " + got + ", the model " + want);
            }
        }

        private void samePoly(int poly) {
            int length = model.at(poly, -1);
            for (int i = -1; i < length; i++) {
                same("at(" + poly + ", " + i + ")", bench.at(poly, i), model.at(poly, i));
            }
            int beyond = length < 0 ? 0 : length + draw(33 - length);
            same("at(" + poly + ", " + beyond + ")", bench.at(poly, beyond), model.at(poly, beyond));
        }

        private int poly() {
            return draw(60) == 0 ? draw(2) * 9 - 1 : draw(8);
        }

        private int any() {
            switch (draw(8)) {
                case 0: return draw(2) == 0 ? Integer.MIN_VALUE : Integer.MAX_VALUE;
                case 1: return draw(1 << 30) * 2 - (1 << 30);
                case 2: return -draw(5);
                default: return draw(9);
            }
        }

        private void one(int call) {
            int kind = draw(100);
            if (call < 12 && theme != 3) {
                fillSome();
            } else if (kind < 12) {
                fillSome();
            } else if (theme == 0 || kind < 20) {
                products();
            } else if (theme == 1 || kind < 30) {
                ofTwo();
            } else if (theme == 2 || kind < 45) {
                atPlaces();
            } else if (theme == 3 || kind < 60) {
                texts();
            } else if (kind < 75) {
                host();
            } else {
                for (int what = -1; what < 7; what++) {
                    same("count(" + what + ")", bench.count(what), model.count(what));
                }
                same("counted()", bench.counted(), model.counted());
            }
        }

        /** Gives POLYS numbers: single ones, whole rows, products of lines. */
        private void fillSome() {
            int to = poly();
            switch (draw(7)) {
                case 0: {
                    int i = draw(36) - 2;
                    int c = any();
                    same("put(" + to + ", " + i + ", " + c + ")", bench.put(to, i, c), model.put(to, i, c));
                    break;
                }
                case 1: {
                    same("clear(" + to + ")", bench.clear(to), model.clear(to));
                    break;
                }
                case 2: {
                    int a = poly();
                    int b = poly();
                    int by = any();
                    same("sum(" + to + ", " + a + ", " + by + ", " + b + ")",
                            bench.sum(to, a, by, b), model.sum(to, a, by, b));
                    samePoly(to);
                    break;
                }
                case 3:
                    lines(to);
                    break;
                default: {
                    int size = draw(draw(4) == 0 ? 33 : 12);
                    same("clear(" + to + ")", bench.clear(to), model.clear(to));
                    for (int i = 0; i < size; i++) {
                        int c = draw(3) == 0 ? draw(1 << 20) - (1 << 19) : draw(3) - 1;
                        same("put(" + to + ", " + i + ", " + c + ")", bench.put(to, i, c), model.put(to, i, c));
                    }
                    break;
                }
            }
        }

        /** A product of x less few numbers, some more than once. */
        private void lines(int to) {
            if (to < 0 || to > 7) {
                return;
            }
            int many = draw(8);
            long[] row = new long[33];
            row[0] = 1 + draw(5);
            for (int k = 0; k < many; k++) {
                long x = draw(4) == 0 ? draw(8000) : draw(4);
                for (int i = k + 1; i >= 0; i--) {
                    row[i] = Math.floorMod((i > 0 ? row[i - 1] : 0) - x * row[i], (long) model.p);
                }
            }
            same("clear(" + to + ")", bench.clear(to), model.clear(to));
            for (int i = 0; i <= many; i++) {
                same("put", bench.put(to, i, (int) row[i]), model.put(to, i, (int) row[i]));
            }
        }

        private void products() {
            int to = poly();
            int a = poly();
            int b = draw(4) == 0 ? a : poly();
            int way = draw(10) - 1;
            String two = a + ", " + b;
            switch (draw(8)) {
                case 0: {
                    int kind = draw(8) - 1;
                    int cut = draw(19) - 1;
                    same("way(" + kind + ", " + cut + ")", bench.way(kind, cut), model.way(kind, cut));
                    break;
                }
                case 1:
                    same("cost(" + two + ", " + way + ")", bench.cost(a, b, way), model.cost(a, b, way));
                    break;
                case 2:
                    same("plan(" + two + ")", bench.plan(a, b), model.plan(a, b));
                    break;
                case 3:
                    same("planned(" + to + ", " + two + ")", bench.planned(to, a, b), model.planned(to, a, b));
                    samePoly(to);
                    break;
                case 4:
                    same("says(" + way + ", " + two + ")", bench.says(way, a, b), model.says(way, a, b));
                    break;
                case 5: {
                    int k = draw(8) - 1;
                    same("taken(" + way + ", " + k + ")", bench.taken(way, k), model.taken(way, k));
                    break;
                }
                default:
                    same("times(" + to + ", " + two + ", " + way + ")",
                            bench.times(to, a, b, way), model.times(to, a, b, way));
                    samePoly(to);
                    break;
            }
        }

        private void ofTwo() {
            int to = poly();
            int a = poly();
            int b = poly();
            String three = to + ", " + a + ", " + b;
            switch (draw(9)) {
                case 0:
                    same("gcd(" + three + ")", bench.gcd(to, a, b), model.gcd(to, a, b));
                    break;
                case 1:
                    same("cofactor(" + three + ")", bench.cofactor(to, a, b), model.cofactor(to, a, b));
                    break;
                case 2:
                    same("compose(" + three + ")", bench.compose(to, a, b), model.compose(to, a, b));
                    break;
                case 3: {
                    int by = any();
                    same("move(" + to + ", " + a + ", " + by + ")", bench.move(to, a, by), model.move(to, a, by));
                    break;
                }
                case 4: {
                    int count = model.root(a, -1);
                    for (int i = -2; i < Math.max(count, 0) + 2; i++) {
                        same("root(" + a + ", " + i + ")", bench.root(a, i), model.root(a, i));
                    }
                    break;
                }
                case 5: {
                    int x = draw(3) == 0 ? any() : draw(4);
                    same("order(" + a + ", " + x + ")", bench.order(a, x), model.order(a, x));
                    break;
                }
                default: {
                    boolean rest = draw(2) == 0;
                    same("divide(" + three + ", " + rest + ")",
                            bench.divide(to, a, b, rest), model.divide(to, a, b, rest));
                    break;
                }
            }
            samePoly(to);
        }

        private void atPlaces() {
            int to = poly();
            int i = draw(18) - 1;
            switch (draw(16)) {
                case 0:
                    if (draw(4) == 0) {
                        same("leave()", bench.leave(), model.leave());
                    }
                    break;
                case 1: {
                    int v = any();
                    same("see(" + i + ", " + v + ")", bench.see(i, v), model.see(i, v));
                    break;
                }
                case 2: {
                    int what = draw(4) - 1;
                    same("told(" + i + ", " + what + ")", bench.told(i, what), model.told(i, what));
                    break;
                }
                case 3:
                    same("value(" + to + ", " + i + ")", bench.value(to, i), model.value(to, i));
                    break;
                case 4:
                    same("look(" + to + ")", bench.look(to), model.look(to));
                    break;
                case 5:
                case 6:
                    same("fill(" + to + ")", bench.fill(to), model.fill(to));
                    samePoly(to);
                    break;
                case 7: {
                    int k = draw(18) - 1;
                    same("right(" + to + ", " + k + ")", bench.right(to, k), model.right(to, k));
                    samePoly(to);
                    break;
                }
                case 8:
                    for (int j = -1; j < 18; j++) {
                        same("relation(" + j + ")", bench.relation(j), model.relation(j));
                    }
                    break;
                case 9: {
                    int j = draw(3) == 0 ? draw(1004) - 2 : draw(4);
                    same("power(" + j + ")", bench.power(j), model.power(j));
                    break;
                }
                case 10:
                    faults();
                    break;
                case 12:
                    fewValues();
                    break;
                case 11:
                    rows();
                    break;
                default: {
                    int x = draw(3) == 0 ? any() : draw(30);
                    same("place(" + x + ")", bench.place(x), model.place(x));
                    break;
                }
            }
        }

        /** PLACES that are unlike, VALUES of a short POLY, some of them put wrong. */
        private void faults() {
            same("leave()", bench.leave(), model.leave());
            int n = 1 + draw(16);
            int step = 1 + draw(5);
            for (int i = 0; i < n; i++) {
                same("place", bench.place(i * step), model.place(i * step));
            }
            int k = 1 + draw(n);
            int from = draw(8);
            same("look(" + from + ")", bench.look(from), model.look(from));
            for (int i = 0; i < n; i++) {
                if (model.at(from, -1) > k) {
                    int v = i * i * (k > 2 ? 3 : 0) + i * (k > 1 ? 5 : 0) + 1;
                    same("see", bench.see(i, v), model.see(i, v));
                }
            }
            int spoilt = draw((n - k) / 2 + 2);
            for (int i = 0; i < spoilt; i++) {
                int at = draw(n);
                int v = draw(100);
                same("see", bench.see(at, v), model.see(at, v));
            }
            for (int other = k - 1; other <= k + 1; other++) {
                int to = draw(8);
                same("right(" + to + ", " + other + ")", bench.right(to, other), model.right(to, other));
                samePoly(to);
            }
        }

        /** Few PLACES with few VALUES, where much agrees by chance. */
        private void fewValues() {
            same("leave()", bench.leave(), model.leave());
            int n = 1 + draw(8);
            int unlike = 1 + draw(4);
            for (int i = 0; i < n; i++) {
                same("place", bench.place(7 * i + 1), model.place(7 * i + 1));
                int v = draw(unlike);
                same("see", bench.see(i, v), model.see(i, v));
            }
            for (int k = 1; k <= n; k++) {
                int want = model.right(0, k);
                same("right(0, " + k + ") of few", bench.right(0, k), want);
                if (want >= 0) {
                    samePoly(0);
                }
            }
        }

        /** VALUES that follow a short RELATION, at times with one fault. */
        private void rows() {
            int n = model.count(2);
            int size = 1 + draw(5);
            long[] r = new long[size];
            for (int j = 0; j < size; j++) {
                r[j] = draw(4);
            }
            long[] v = new long[n];
            for (int i = 0; i < n; i++) {
                for (int j = 0; j < size && i >= size; j++) {
                    v[i] += r[j] * v[i - 1 - j];
                }
                v[i] = i < size ? draw(3) : v[i] % model.p;
                same("see", bench.see(i, (int) v[i]), model.see(i, (int) v[i]));
            }
            for (int j = 0; j < 18; j++) {
                same("relation(" + j + ")", bench.relation(j), model.relation(j));
            }
        }

        private void texts() {
            int way = draw(3);
            if (draw(3) == 0) {
                same("way", bench.way(draw(6), 3), model.way(lastDrawn(6), 3));
            }
            StringBuilder words = new StringBuilder();
            boolean plain = draw(3) == 0;
            for (String key : new String[] {"plain", "split", "turn"}) {
                words.append(key).append(' ');
                expression(words, draw(4));
                words.append(plain ? ";" : " ;\n");
            }
            if (draw(2) == 0) {
                spoil(words);
            }
            feed(words.toString());
            if (draw(25) == 0) {
                int n = draw(12) - 1;
                long bytes = seed;
                same("feed(" + n + ", " + bytes + ")", bench.feed(n, bytes), model.feed(n, bytes));
            }
            same("text() of " + words, bench.text(), model.text());
            int text = draw(8) - 1;
            same("force(" + text + ")", bench.force(text), model.force(text));
            for (int a = 0; a < 3; a++) {
                int b = poly();
                same("says(" + way + ", " + a + ", " + b + ") of " + words,
                        bench.says(way, a, b), model.says(way, a, b));
                same("plan(" + a + ", " + b + ")", bench.plan(a, b), model.plan(a, b));
            }
        }

        private int lastDrawn(int below) {
            return (int) Math.floorMod(seed >>> 33, (long) below);
        }

        private void feed(String words) {
            for (int i = 0; i < words.length(); i += 8) {
                int n = Math.min(8, words.length() - i);
                long bytes = draw(2) == 0 ? 0 : n == 8 ? 0 : -1L << 8 * n;
                for (int j = 0; j < n; j++) {
                    bytes |= (words.charAt(i + j) & 0xFFL) << 8 * j;
                }
                same("feed(" + n + ", " + bytes + ")", bench.feed(n, bytes), model.feed(n, bytes));
            }
        }

        private void expression(StringBuilder words, int depth) {
            if (depth <= 0 || draw(6) == 0) {
                String[] ones = {"n", "m", "size", "cut", "kind", "same", "1", "0", "7", "9999", "0003"};
                words.append(ones[draw(ones.length)]);
                return;
            }
            switch (draw(12)) {
                case 0:
                    words.append("not ");
                    expression(words, depth - 1);
                    break;
                case 1:
                    words.append("-");
                    expression(words, depth - 1);
                    break;
                case 2:
                case 3:
                    words.append("(");
                    expression(words, depth - 1);
                    words.append(")");
                    break;
                default: {
                    String[] signs = {" or ", " and ", "<", "=", "+", "-", "*", " * ", "- -", "*-", " and not "};
                    expression(words, depth - 1);
                    words.append(signs[draw(signs.length)]);
                    expression(words, depth - 1);
                    break;
                }
            }
        }

        private void spoil(StringBuilder words) {
            String[] bits = {"", " ", "(", "((((((", ")", "not ", "not not not not not not ", "-", "------", "<", "=",
                "x", "N", "12345", ";", "or", "plain", "n", "+", "*", "\n", "\t", String.valueOf((char) 200), "9"};
            int at = draw(words.length() + 1);
            int till = Math.min(words.length(), at + draw(3));
            words.replace(at, till, bits[draw(bits.length)]);
            if (draw(5) == 0) {
                words.setLength(draw(words.length() + 1));
            }
        }

        private void host() {
            int sheet = draw(6) - 1;
            switch (draw(5)) {
                case 0: {
                    int sort = draw(6) - 2;
                    int n = draw(3) == 0 ? draw(50) - 5 : draw(8);
                    same("sheet(" + sheet + ", " + sort + ", " + n + ")",
                            bench.sheet(sheet, sort, n), model.sheet(sheet, sort, n));
                    break;
                }
                case 1:
                case 2: {
                    int i = draw(3) == 0 ? draw(44) - 2 : draw(8);
                    int v = draw(2) == 0 ? any() : draw(1 << 18) - (1 << 17);
                    same("cell(" + sheet + ", " + i + ", " + v + ")",
                            bench.cell(sheet, i, v), model.cell(sheet, i, v));
                    break;
                }
                default: {
                    int to = poly();
                    int sort = draw(5) - 1;
                    int from = draw(4) == 0 ? any() : draw(5) - 1;
                    int n = draw(3) == 0 ? draw(36) - 2 : draw(5);
                    same("lay(" + to + ", " + sheet + ", " + sort + ", " + from + ", " + n + ")",
                            bench.lay(to, sheet, sort, from, n), model.lay(to, sheet, sort, from, n));
                    samePoly(to);
                    break;
                }
            }
        }
    }

    /** The second bench. It is slow, and holds everything as plainly as can be. */
    private static final class Model {
        final int p;
        final long[][] polys = new long[8][32];
        final List<int[]> ways = new ArrayList<>();
        final List<String> texts = new ArrayList<>(List.of("plain n*m;split size*cut+9;turn 80;"));
        final StringBuilder tape = new StringBuilder();
        final List<long[]> places = new ArrayList<>();
        final int[][] sheets = new int[4][];
        final int[] sorts = {-1, -1, -1, -1};
        int rule;
        long all;

        Model(int which) {
            p = new int[] {97, 193, 257, 7681}[which & 3];
        }

        long mod(long x) {
            return ((x % p) + p) % p;
        }

        boolean bad(int... some) {
            for (int one : some) {
                if (one < 0 || one > 7) {
                    return true;
                }
            }
            return false;
        }

        static int length(long[] row) {
            int most = row.length;
            while (most > 0 && row[most - 1] == 0) {
                most--;
            }
            return most;
        }

        int become(int to, long[] row) {
            polys[to] = Arrays.copyOf(row, 32);
            return length(row);
        }

        int put(int poly, int i, int c) {
            if (bad(poly) || i < 0 || i > 31) {
                return -2;
            }
            int was = (int) polys[poly][i];
            polys[poly][i] = mod(c);
            return was;
        }

        int at(int poly, int i) {
            if (bad(poly) || i < -1 || i > 31) {
                return -2;
            }
            return i < 0 ? length(polys[poly]) : (int) polys[poly][i];
        }

        int clear(int poly) {
            int was = at(poly, -1);
            if (was >= 0) {
                polys[poly] = new long[32];
            }
            return was;
        }

        int sum(int to, int a, int by, int b) {
            if (bad(to, a, b)) {
                return -2;
            }
            long[] row = new long[32];
            for (int i = 0; i < 32; i++) {
                row[i] = mod(mod(by) * polys[a][i] + polys[b][i]);
            }
            return become(to, row);
        }

        int way(int kind, int cut) {
            if (kind < 0 || kind > 5 || cut < 1 || cut > 16) {
                return -2;
            }
            if (ways.size() == 8) {
                return -4;
            }
            ways.add(new int[] {kind, cut});
            return ways.size() - 1;
        }

        boolean noWay(int way) {
            return way < 0 || way >= ways.size();
        }

        long[] product(long[] a, long[] b) {
            long[] row = new long[a.length + b.length];
            for (int i = 0; i < a.length; i++) {
                for (int j = 0; j < b.length; j++) {
                    row[i + j] = mod(row[i + j] + a[i] * b[j]);
                }
            }
            return row;
        }

        static int ceil(int a, int b) {
            return a / b + (a % b > 0 ? 1 : 0);
        }

        static int countBySize(int kind, int cut, int s) {
            if (s <= cut || kind == 2 && s <= 2) {
                return s * s;
            }
            if (kind == 1 || kind == 4 && s <= 3 * cut) {
                int h = ceil(s, 2);
                return 2 * countBySize(kind, cut, h) + countBySize(kind, cut, s - h);
            }
            return 5 * countBySize(kind, cut, ceil(s, 3));
        }

        int cost(int a, int b, int way) {
            if (bad(a, b) || noWay(way)) {
                return -2;
            }
            int n = length(polys[a]);
            int m = length(polys[b]);
            if (n == 0 || m == 0) {
                return 0;
            }
            int kind = ways.get(way)[0];
            if (kind == 0) {
                return n * m;
            }
            if (kind != 3 && kind != 5) {
                return countBySize(kind, ways.get(way)[1], Math.max(n, m));
            }
            int k = 0;
            while ((1 << k) < n + m - 1) {
                k++;
            }
            if (1 << k > 32) {
                return -4;
            }
            int turns = kind == 5 && Arrays.equals(polys[a], polys[b]) ? 2 : 3;
            return turns * k * (1 << k) / 2 + (1 << k);
        }

        int times(int to, int a, int b, int way) {
            if (bad(to) || cost(a, b, way) == -2) {
                return -2;
            }
            long[] row = product(polys[a], polys[b]);
            if (length(row) > 32) {
                return -4;
            }
            int count = cost(a, b, way);
            become(to, row);
            all += count;
            return count;
        }

        int plan(int a, int b) {
            if (bad(a, b)) {
                return -2;
            }
            int best = -1;
            for (int way = ways.size() - 1; way >= 0; way--) {
                if (cost(a, b, way) != -4 && (best < 0 || says(way, a, b) <= says(best, a, b))) {
                    best = way;
                }
            }
            return best;
        }

        int planned(int to, int a, int b) {
            if (bad(to, a, b)) {
                return -2;
            }
            int best = plan(a, b);
            return best < 0 ? -3 : times(to, a, b, best) == -4 ? -4 : best;
        }

        int feed(int n, long bytes) {
            if (n < 1 || n > 8) {
                return -2;
            }
            if (tape.length() + n > 160) {
                return -4;
            }
            for (int i = 0; i < n; i++) {
                tape.append((char) (bytes >>> 8 * i & 0xFF));
            }
            return tape.length();
        }

        int text() {
            if (texts.size() == 6) {
                return -4;
            }
            String words = tape.toString();
            tape.setLength(0);
            int fault = Fault.of(words);
            if (fault >= 0) {
                return -100 - fault;
            }
            texts.add(words);
            return texts.size() - 1;
        }

        int force(int text) {
            if (text < 0 || text >= texts.size()) {
                return -2;
            }
            int was = rule;
            rule = text;
            return was;
        }

        long says(int way, int a, int b) {
            if (noWay(way) || bad(a, b)) {
                return -(1L << 62);
            }
            int kind = ways.get(way)[0];
            int part = kind == 0 ? 0 : kind == 3 || kind == 5 ? 2 : 1;
            int n = length(polys[a]);
            int m = length(polys[b]);
            String[] names = {"n", "m", "size", "cut", "kind", "same"};
            int[] worths = {n, m, Math.max(n, m), ways.get(way)[1], kind, Arrays.equals(polys[a], polys[b]) ? 1 : 0};
            List<String> tokens = Fault.tokens(texts.get(rule).split(";")[part]);
            return Worth.of(tokens.subList(1, tokens.size()), Arrays.asList(names), worths);
        }

        long inverse(long x) {
            for (int y = 1; y < p; y++) {
                if (x * y % p == 1) {
                    return y;
                }
            }
            return 0;
        }

        /** {quotient, rest}. */
        long[][] divided(long[] a, long[] b) {
            long[] rest = a.clone();
            long[] quotient = new long[a.length];
            int m = length(b);
            long lead = inverse(b[m - 1]);
            while (length(rest) >= m) {
                int by = length(rest) - m;
                quotient[by] = rest[length(rest) - 1] * lead % p;
                for (int i = 0; i < m; i++) {
                    rest[i + by] = mod(rest[i + by] - quotient[by] * b[i]);
                }
            }
            return new long[][] {quotient, rest};
        }

        int divide(int to, int a, int b, boolean rest) {
            if (bad(to, a, b)) {
                return -2;
            }
            return length(polys[b]) == 0 ? -3 : become(to, divided(polys[a], polys[b])[rest ? 1 : 0]);
        }

        long[] common(long[] a, long[] b) {
            if (length(b) > 0) {
                return common(b, divided(a, b)[1]);
            }
            long[] one = a.clone();
            long lead = length(a) == 0 ? 0 : inverse(a[length(a) - 1]);
            for (int i = 0; i < one.length; i++) {
                one[i] = one[i] * lead % p;
            }
            return one;
        }

        int gcd(int to, int a, int b) {
            return bad(to, a, b) ? -2 : become(to, common(polys[a], polys[b]));
        }

        /** Tries the LENGTHS from 0 on: can a row of so many be found? */
        int cofactor(int to, int a, int b) {
            if (bad(to, a, b)) {
                return -2;
            }
            long[] goal = common(polys[a], polys[b]);
            boolean byNone = length(polys[b]) == 0;
            goal = byNone ? goal : divided(goal, polys[b])[1];
            for (int size = 0; size <= 32; size++) {
                long[][] rows = new long[64][size + 1];
                for (int i = 0; i < size; i++) {
                    long[] power = new long[64];
                    for (int j = 0; j < 32; j++) {
                        power[i + j] = polys[a][j];
                    }
                    long[] rest = byNone ? power : divided(power, polys[b])[1];
                    for (int j = 0; j < 64; j++) {
                        rows[j][i] = rest[j];
                    }
                }
                for (int j = 0; j < 32; j++) {
                    rows[j][size] = goal[j];
                }
                long[] found = solve(rows, size);
                if (found != null) {
                    return become(to, found);
                }
            }
            return -99;
        }

        /** Rows of equations, the last column what is due: one answer, or null. */
        long[] solve(long[][] rows, int size) {
            int done = 0;
            int[] row = new int[size];
            Arrays.fill(row, -1);
            for (int column = 0; column < size; column++) {
                int pivot = done;
                while (pivot < rows.length && rows[pivot][column] == 0) {
                    pivot++;
                }
                if (pivot == rows.length) {
                    continue;
                }
                long[] swap = rows[pivot];
                rows[pivot] = rows[done];
                rows[done] = swap;
                long lead = inverse(swap[column]);
                for (int i = 0; i <= size; i++) {
                    swap[i] = swap[i] * lead % p;
                }
                for (int other = 0; other < rows.length; other++) {
                    long factor = rows[other][column];
                    for (int i = column; i <= size && other != done && factor != 0; i++) {
                        rows[other][i] = mod(rows[other][i] - factor * swap[i]);
                    }
                }
                row[column] = done++;
            }
            for (int i = done; i < rows.length; i++) {
                if (rows[i][size] != 0) {
                    return null;
                }
            }
            long[] found = new long[size];
            for (int i = 0; i < size; i++) {
                found[i] = row[i] < 0 ? 0 : rows[row[i]][size];
            }
            return found;
        }

        int compose(int to, int a, int b) {
            if (bad(to, a, b)) {
                return -2;
            }
            long[] whole = new long[1100];
            long[] power = {1};
            for (int i = 0; i < length(polys[a]); i++) {
                for (int j = 0; j < power.length; j++) {
                    whole[j] = mod(whole[j] + polys[a][i] * power[j]);
                }
                power = product(Arrays.copyOf(power, length(power)), Arrays.copyOf(polys[b], length(polys[b])));
            }
            return length(whole) > 32 ? -4 : become(to, whole);
        }

        long power(long x, int k) {
            long one = 1;
            for (int i = 0; i < k; i++) {
                one = one * x % p;
            }
            return one;
        }

        long choose(int n, int k) {
            long many = 1;
            for (int i = 1; i <= k; i++) {
                many = many * (n - k + i) / i;
            }
            return many % p;
        }

        int move(int to, int a, int by) {
            if (bad(to, a)) {
                return -2;
            }
            long[] row = new long[32];
            for (int i = 0; i < 32; i++) {
                for (int k = 0; k <= i; k++) {
                    row[k] = mod(row[k] + polys[a][i] * choose(i, k) % p * power(mod(by), i - k));
                }
            }
            return become(to, row);
        }

        long worth(long[] row, long x) {
            long total = 0;
            long power = 1;
            for (long one : row) {
                total = (total + one * power) % p;
                power = power * x % p;
            }
            return total;
        }

        int root(int a, int i) {
            if (bad(a)) {
                return -2;
            }
            if (length(polys[a]) == 0) {
                return -3;
            }
            int count = 0;
            for (int x = 0; x < p; x++) {
                if (worth(polys[a], x) == 0) {
                    if (count == i) {
                        return x;
                    }
                    count++;
                }
            }
            return i == -1 ? count : -1;
        }

        int order(int a, int x) {
            if (bad(a)) {
                return -2;
            }
            if (length(polys[a]) == 0) {
                return -3;
            }
            long[] left = polys[a];
            long[] line = {mod(-(long) x), 1};
            int many = 0;
            while (length(divided(left, line)[1]) == 0) {
                left = divided(left, line)[0];
                many++;
            }
            return many;
        }

        int place(int x) {
            if (places.size() == 16) {
                return -4;
            }
            places.add(new long[] {mod(x), 0});
            return places.size() - 1;
        }

        int leave() {
            int were = places.size();
            places.clear();
            return were;
        }

        boolean noPlace(int i) {
            return i < 0 || i >= places.size();
        }

        int see(int i, int v) {
            if (noPlace(i)) {
                return -2;
            }
            int was = (int) places.get(i)[1];
            places.get(i)[1] = mod(v);
            return was;
        }

        int told(int i, int what) {
            return noPlace(i) || what < 0 || what > 1 ? -2 : (int) places.get(i)[what];
        }

        int value(int a, int i) {
            return bad(a) || noPlace(i) ? -2 : (int) worth(polys[a], places.get(i)[0]);
        }

        int look(int a) {
            if (bad(a)) {
                return -2;
            }
            for (long[] place : places) {
                place[1] = worth(polys[a], place[0]);
            }
            return places.size();
        }

        int fill(int to) {
            if (bad(to)) {
                return -2;
            }
            int n = places.size();
            long[][] rows = new long[n][n + 1];
            for (int i = 0; i < n; i++) {
                int k = 0;
                for (int j = 0; j < i; j++) {
                    k += places.get(j)[0] == places.get(i)[0] ? 1 : 0;
                }
                for (int j = k; j < n; j++) {
                    rows[i][j] = choose(j, k) * power(places.get(i)[0], j - k) % p;
                }
                rows[i][n] = places.get(i)[1];
            }
            return become(to, solve(rows, n));
        }

        /** Tries every choice of k PLACES whose VALUES may all be true. */
        int right(int to, int k) {
            int n = places.size();
            if (bad(to) || k < 1 || k > n) {
                return -2;
            }
            for (int i = 0; i < n; i++) {
                for (int j = 0; j < i; j++) {
                    if (places.get(i)[0] == places.get(j)[0]) {
                        return -3;
                    }
                }
            }
            for (int chosen = 0; chosen < 1 << n; chosen++) {
                // Of the first k + (faults that may be) PLACES, k are true: no more need be tried.
                if (Integer.bitCount(chosen) != k || chosen >= 1 << k + (n - k) / 2) {
                    continue;
                }
                long[] row = through(chosen, k);
                int wrongs = 0;
                for (long[] place : places) {
                    wrongs += worth(row, place[0]) == place[1] ? 0 : 1;
                }
                if (wrongs <= (n - k) / 2) {
                    become(to, row);
                    return wrongs;
                }
            }
            return -1;
        }

        long[] through(int chosen, int k) {
            long[] whole = new long[k];
            for (int i = 0; i < places.size(); i++) {
                if ((chosen >> i & 1) == 0) {
                    continue;
                }
                long[] row = new long[k + 1];
                row[0] = 1;
                long below = 1;
                for (int j = 0; j < places.size(); j++) {
                    if (j != i && (chosen >> j & 1) == 1) {
                        long x = places.get(j)[0];
                        for (int at = k; at >= 0; at--) {
                            row[at] = mod((at > 0 ? row[at - 1] : 0) - x * row[at]);
                        }
                        below = mod(below * (places.get(i)[0] - x));
                    }
                }
                long factor = places.get(i)[1] == 0 ? 0 : places.get(i)[1] * power(below, p - 2) % p;
                for (int at = 0; at < k; at++) {
                    whole[at] = (whole[at] + factor * row[at]) % p;
                }
            }
            return whole;
        }

        int relation(int j) {
            int n = places.size();
            for (int size = 0; size <= n; size++) {
                long[][] rows = new long[n - size][size + 1];
                for (int i = size; i < n; i++) {
                    for (int back = 1; back <= size; back++) {
                        rows[i - size][back - 1] = places.get(i - back)[1];
                    }
                    rows[i - size][size] = places.get(i)[1];
                }
                long[] found = solve(rows, size);
                if (found != null) {
                    return j < 0 || j > size ? -2 : j == 0 ? size : 2 * size > n ? -3 : (int) found[j - 1];
                }
            }
            return -99;
        }

        int power(int j) {
            if (j < 0 || j > 999) {
                return -2;
            }
            long total = 0;
            for (long[] place : places) {
                total = (total + place[1] * power(place[0], j)) % p;
            }
            return (int) total;
        }

        int count(int what) {
            int[] many = {p, ways.size(), places.size(), texts.size(), tape.length(), rule};
            return what < 0 || what > 5 ? -2 : many[what];
        }

        long counted() {
            return all;
        }

        int sheet(int sheet, int sort, int n) {
            if (sheet < 0 || sheet > 3 || sort < -1 || sort > 2 || sort >= 0 && n > 40) {
                return -2;
            }
            if (sort >= 0 && n < 0) {
                return -14;
            }
            sorts[sheet] = sort;
            sheets[sheet] = sort < 0 ? null : new int[n];
            return 1;
        }

        int cell(int sheet, int i, int v) {
            if (sheet < 0 || sheet > 3) {
                return -2;
            }
            if (sheets[sheet] == null) {
                return -11;
            }
            if (i < 0 || i >= sheets[sheet].length) {
                return -12;
            }
            sheets[sheet][i] = sorts[sheet] == 0 ? (byte) v : sorts[sheet] == 1 ? (short) v : v;
            return 1;
        }

        int lay(int poly, int sheet, int sort, int from, int n) {
            if (bad(poly) || sheet < 0 || sheet > 3 || sort < 0 || sort > 2 || n < 0 || n > 32) {
                return -2;
            }
            if (sheets[sheet] == null) {
                return -11;
            }
            if (sorts[sheet] != sort) {
                return -13;
            }
            long[] row = new long[32];
            for (int i = 0; i < n; i++) {
                long at = (long) from + i;
                if (at < 0 || at >= sheets[sheet].length) {
                    return -12;
                }
                row[i] = mod(sheets[sheet][(int) at]);
            }
            return become(poly, row);
        }

        int taken(int way, int k) {
            if (k < 0 || k > 5) {
                return -2;
            }
            if (noWay(way)) {
                return -11;
            }
            String[] unders = {"0", "10", "210", "30", "4210", "530"};
            return unders[ways.get(way)[0]].indexOf('0' + k) >= 0 ? ways.get(way)[1] : -13;
        }
    }

    /** Where a TEXT goes wrong: tokens one by one, with a row of what is open. */
    private static final class Fault {
        private static final List<String> NAMES = List.of("n", "m", "size", "cut", "kind", "same");
        private static final List<String> KEYS = List.of("plain", "split", "turn", "or", "and", "not");

        static List<String> tokens(String words) {
            List<String> tokens = new ArrayList<>();
            for (int[] span : spans(words)) {
                tokens.add(words.substring(span[0], span[1]));
            }
            return tokens;
        }

        static List<int[]> spans(String words) {
            List<int[]> spans = new ArrayList<>();
            int i = 0;
            while (i < words.length()) {
                int from = i;
                String few = words.charAt(i) >= 'a' && words.charAt(i) <= 'z' ? "abcdefghijklmnopqrstuvwxyz"
                        : words.charAt(i) >= '0' && words.charAt(i) <= '9' ? "0123456789" : "";
                do {
                    i++;
                } while (i < words.length() && few.indexOf(words.charAt(i)) >= 0);
                if (words.charAt(from) != ' ' && words.charAt(from) != '\n') {
                    spans.add(new int[] {from, i});
                }
            }
            return spans;
        }

        private static boolean known(String token) {
            char first = token.charAt(0);
            if (first >= '0' && first <= '9') {
                return token.length() <= 4;
            }
            return NAMES.contains(token) || KEYS.contains(token) || "();+-*<=".contains(token);
        }

        /**
         * What is open, from outside in, is a row of signs: ( n(ot) -. What may come next: K a key, T true or false
         * (also not), S a sum, O a sign behind a one. Whether a < or = has stood is kept for each ( .
         */
        static int of(String words) {
            StringBuilder open = new StringBuilder();
            boolean[] compared = new boolean[9];
            int deep = 0;
            int part = 0;
            char next = 'K';
            String[] keys = {"plain", "split", "turn"};
            for (int[] span : spans(words)) {
                String token = words.substring(span[0], span[1]);
                if (!known(token)) {
                    return span[0];
                }
                boolean one = NAMES.contains(token) || Character.isDigit(token.charAt(0));
                if (next == 'K') {
                    if (part > 2 || !token.equals(keys[part])) {
                        return span[0];
                    }
                    next = 'T';
                    compared[0] = false;
                } else if (next != 'O') {
                    if (one) {
                        drop(open, '-');
                        next = 'O';
                        continue;
                    }
                    boolean opens = token.equals("(") || token.equals("-") || token.equals("not") && next == 'T';
                    if (!opens || open.length() == 5) {
                        return span[0];
                    }
                    open.append(token.charAt(0));
                    if (token.equals("(")) {
                        compared[++deep] = false;
                    }
                    next = token.equals("-") ? 'S' : 'T';
                } else if (token.equals("+") || token.equals("-") || token.equals("*")) {
                    next = 'S';
                } else if (token.equals("<") || token.equals("=")) {
                    if (compared[deep]) {
                        return span[0];
                    }
                    compared[deep] = true;
                    next = 'S';
                } else if (token.equals("and") || token.equals("or")) {
                    drop(open, 'n');
                    compared[deep] = false;
                    next = 'T';
                } else if (token.equals(")")) {
                    drop(open, 'n');
                    if (deep == 0) {
                        return span[0];
                    }
                    deep--;
                    open.setLength(open.length() - 1);
                    drop(open, '-');
                } else if (token.equals(";")) {
                    if (deep > 0) {
                        return span[0];
                    }
                    open.setLength(0);
                    part++;
                    next = 'K';
                } else {
                    return span[0];
                }
            }
            return part == 3 && next == 'K' ? -1 : words.length();
        }

        private static void drop(StringBuilder open, char what) {
            while (open.length() > 0 && open.charAt(open.length() - 1) == what) {
                open.setLength(open.length() - 1);
            }
        }
    }

    /** What an E without a FAULT is worth: parted at the sign that binds least, the last of its like. */
    private static final class Worth {
        static int of(List<String> tokens, List<String> names, int[] worths) {
            for (String level : new String[] {"or", "and"}) {
                int at = last(tokens, level);
                if (at > 0) {
                    boolean a = of(tokens.subList(0, at), names, worths) != 0;
                    boolean b = of(tokens.subList(at + 1, tokens.size()), names, worths) != 0;
                    return (level.equals("or") ? a || b : a && b) ? 1 : 0;
                }
            }
            if (tokens.get(0).equals("not")) {
                return of(tokens.subList(1, tokens.size()), names, worths) == 0 ? 1 : 0;
            }
            for (String level : new String[] {"< =", "+ -", "*"}) {
                int at = last(tokens, level);
                if (at > 0) {
                    int a = of(tokens.subList(0, at), names, worths);
                    int b = of(tokens.subList(at + 1, tokens.size()), names, worths);
                    switch (tokens.get(at)) {
                        case "<": return a < b ? 1 : 0;
                        case "=": return a == b ? 1 : 0;
                        case "+": return a + b;
                        case "-": return a - b;
                        default: return a * b;
                    }
                }
            }
            String first = tokens.get(0);
            if (first.equals("-")) {
                return -of(tokens.subList(1, tokens.size()), names, worths);
            }
            if (first.equals("(")) {
                return of(tokens.subList(1, tokens.size() - 1), names, worths);
            }
            return names.contains(first) ? worths[names.indexOf(first)] : Integer.parseInt(first);
        }

        /** The last sign of a level that stands in no ( ) and between two: not ahead of a ONE. */
        private static int last(List<String> tokens, String level) {
            int deep = 0;
            for (int i = tokens.size() - 1; i > 0; i--) {
                String token = tokens.get(i);
                deep += token.equals(")") ? 1 : token.equals("(") ? -1 : 0;
                String ahead = tokens.get(i - 1);
                boolean behindOne = ahead.equals(")") || Character.isDigit(ahead.charAt(0))
                        || List.of("n", "m", "size", "cut", "kind", "same").contains(ahead);
                if (deep == 0 && behindOne && Arrays.asList(level.split(" ")).contains(token)) {
                    return i;
                }
            }
            return -1;
        }
    }
}
