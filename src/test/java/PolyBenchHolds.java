/**
 * No call throws or fails to end, for any arguments in any state, also after the 512th; what a refused call is given
 * changes nothing; and two objects that are called alike answer alike.
 */
public final class PolyBenchHolds {
    private static final int[] HARD = {
        0, 1, -1, 2, 3, 7, 8, 15, 16, 17, 31, 32, 33, 39, 40, 41, 97, 193, 257, 7681, 999, 1000,
        Integer.MAX_VALUE, Integer.MIN_VALUE, Integer.MAX_VALUE - 1, Integer.MIN_VALUE + 1, 1 << 16, -(1 << 16), -2, -100
    };
    private static final long MINUTES = 5;
    // What crowd() calls at most.
    private static final int CROWDED = 200;

    private static long seed = 1;
    private static int wrong = 0;

    public static void main(String[] args) {
        watch();
        int run = 0;
        try {
            for (run = 0; run < 300 && wrong < 20; run++) {
                hostile(run);
            }
            for (run = 0; run < 4; run++) {
                longest(run);
                wholeTapes(run);
            }
            for (run = 0; run < 2000 && wrong < 20; run++) {
                refusalsChangeNothing(run);
            }
        } catch (RuntimeException | Error thrown) {
            wrong++;
            System.out.println("run " + run + " threw " + thrown);
            thrown.printStackTrace(System.out);
        }
        System.out.println(wrong == 0 ? "all calls hold" : wrong + " calls do not hold");
        System.exit(wrong == 0 ? 0 : 1);
    }

    /** A call that does not end is told, too. */
    private static void watch() {
        Thread watcher = new Thread(() -> {
            try {
                Thread.sleep(MINUTES * 60_000);
            } catch (InterruptedException woken) {
                return;
            }
            System.out.println("a call did not end within " + MINUTES + " minutes");
            Runtime.getRuntime().halt(1);
        });
        watcher.setDaemon(true);
        watcher.start();
    }

    private static int draw(int below) {
        seed = seed * 6364136223846793005L + 1442695040888963407L;
        return (int) Math.floorMod(seed >>> 33, (long) below);
    }

    private static int number() {
        return draw(3) == 0 ? HARD[draw(HARD.length)] : draw(9) - 1;
    }

    private static void hostile(int run) {
        PolyBench one = new PolyBench(HARD[run % HARD.length]);
        PolyBench two = new PolyBench(HARD[run % HARD.length]);
        if (run % 2 == 1) {
            crowd(one);
            crowd(two);
        }
        for (int call = run % 2 * CROWDED; call < 700; call++) {
            int method = draw(36);
            int a = number();
            int b = number();
            int c = number();
            int d = number();
            int e = number();
            long first = call(one, method, a, b, c, d, e);
            long second = call(two, method, a, b, c, d, e);
            // What later calls answer is free, but they hold, too.
            if (call < 512 && first != second) {
                wrong++;
                System.out.println("run " + run + ": method " + method + " answered " + first + " and " + second);
            }
        }
    }

    /** A bench that is full of everything: POLYS of 32, 8 WAYS, 6 TEXTS, 16 PLACES, SHEETS of 40, a long TAPE. */
    private static void crowd(PolyBench x) {
        String[] texts = {"plain n*m;split-size*cut;turn kind<same;", "plain 9999*9999*9999;split not n;turn-9999;",
            "plain(((((n)))));split not not not 1;turn 0;", "plain n or m and size<cut;split m=n;turn kind;",
            "plain 2048*1024*1024;split 0-1;turn-(n-m);"};
        for (String text : texts) {
            for (int i = 0; i < text.length(); i += 8) {
                int n = Math.min(8, text.length() - i);
                long bytes = 0;
                for (int j = n - 1; j >= 0; j--) {
                    bytes = bytes << 8 | text.charAt(i + j);
                }
                x.feed(n, bytes);
            }
            x.force(x.text());
        }
        for (int i = 0; i < 32; i++) {
            x.put(0, i, i * i + 1);
            x.put(1, i, -7 * i - 3);
        }
        x.put(2, 31, 1);
        x.put(3, 16, -1);
        x.sum(4, 0, 1, 1);
        for (int k = 0; k < 8; k++) {
            x.way(k % 6, 2 * k + 1);
        }
        for (int i = 0; i < 16; i++) {
            x.place(i / 2 * 3);
            x.see(i, i * i * i - 5);
        }
        for (int sheet = 0; sheet < 3; sheet++) {
            x.sheet(sheet, sheet, 40);
            x.cell(sheet, 39, Integer.MIN_VALUE);
            x.cell(sheet, 0, Integer.MAX_VALUE);
        }
        for (int k = 0; k < 19; k++) {
            x.feed(8, 0x206E2B6E2B6E2B6EL * (k % 2));
        }
    }

    private static long call(PolyBench x, int method, int a, int b, int c, int d, int e) {
        switch (method) {
            case 0: return x.put(a, b, c);
            case 1: return x.at(a, b);
            case 2: return x.clear(a);
            case 3: return x.sum(a, b, c, d);
            case 4: return x.way(a, b);
            case 5: return x.times(a, b, c, d);
            case 6: return x.cost(a, b, c);
            case 7: return x.plan(a, b);
            case 8: return x.planned(a, b, c);
            case 9: return x.feed(a, (long) b << 32 ^ (long) c << 16 ^ d ^ seed);
            case 10: return x.text();
            case 11: return x.force(a);
            case 12: return x.says(a, b, c);
            case 13: return x.divide(a, b, c, (d & 1) == 0);
            case 14: return x.gcd(a, b, c);
            case 15: return x.cofactor(a, b, c);
            case 16: return x.compose(a, b, c);
            case 17: return x.move(a, b, c);
            case 18: return x.root(a, b);
            case 19: return x.order(a, b);
            case 20: return x.place(a);
            case 21: return (a & 3) == 3 ? x.leave() : 0;
            case 22: return x.see(a, b);
            case 23: return x.told(a, b);
            case 24: return x.value(a, b);
            case 25: return x.look(a);
            case 26: return x.fill(a);
            case 27: return x.right(a, b);
            case 28: return x.relation(a);
            case 29: return x.power(a);
            case 30: return x.count(a);
            case 31: return x.counted();
            case 32: return x.sheet(a, b, c);
            case 33: return x.cell(a, b, c);
            case 34: return x.lay(a, b, c, d, e);
            default: return x.taken(a, b);
        }
    }

    /** The dearest calls on the longest POLYS. */
    private static void longest(int prime) {
        PolyBench x = new PolyBench(prime);
        for (int i = 0; i < 32; i++) {
            x.put(0, i, i * i + 1);
            x.put(1, i, 7 * i + 3);
            x.put(2, i, -i - 1);
        }
        for (int i = 0; i < 16; i++) {
            x.place(i * 3);
            x.see(i, i * i * i);
        }
        for (int k = 0; k < 48; k++) {
            x.root(k % 3, k % 5);
            x.gcd(3, k % 3, 1);
            x.cofactor(4, k % 3, 2);
            x.fill(5);
            x.right(6, k % 17);
            x.relation(k % 4);
            x.compose(7, 0, 1);
            x.move(7, 1, k);
        }
    }

    /** TEXTS with a FAULT that fill THE TAPE. */
    private static void wholeTapes(int prime) {
        String[] bits = {"(", "-", "not ", "n+", "n*", "n or ", "n and ", "n<", ";", "plain ", "9", "a", " "};
        for (String bit : bits) {
            PolyBench x = new PolyBench(prime);
            StringBuilder words = new StringBuilder("plain ");
            while (words.length() < 160) {
                words.append(bit);
            }
            for (int i = 0; i < 160; i++) {
                x.feed(1, words.charAt(i));
            }
            if (x.count(4) != 160 || x.text() > -100) {
                wrong++;
                System.out.println("a TAPE of \"" + bit + "\" was not read as one with a FAULT");
            }
        }
    }

    /** After each call that was refused what can be asked is as it was. */
    private static void refusalsChangeNothing(int run) {
        PolyBench x = new PolyBench(run);
        for (int i = 0; i < 20; i++) {
            x.put(0, i, i + 1);
            x.put(1, i, 3 * i + 2);
        }
        for (int poly = 2; poly < 8; poly++) {
            x.put(poly, poly % 3, poly);
        }
        x.way(3, 2);
        x.way(0, 2);
        for (int i = 0; i < 16; i++) {
            x.place(i % 9 + run % 2 * i);
            x.see(i, i * i);
        }
        x.sheet(0, 0, 5);
        x.sheet(1, 1, 5);
        x.cell(1, 2, 700);
        for (int i = 0; i < 19; i++) {
            x.feed(8, -1);
        }
        for (int k = 0; k < 4; k++) {
            String before = all(x);
            int method = draw(36);
            int a = number();
            int b = number();
            int c = number();
            int d = number();
            int e = number();
            // A TEXT with a FAULT empties THE TAPE.
            boolean changes = method == 10 || method == 21;
            long answer = changes ? 0 : call(x, method, a, b, c, d, e);
            if (answer < 0 && !before.equals(all(x))) {
                wrong++;
                System.out.println("a refused call changed something: method " + method + " answered " + answer);
            }
        }
    }

    private static String all(PolyBench x) {
        StringBuilder all = new StringBuilder();
        for (int poly = 0; poly < 8; poly++) {
            for (int i : new int[] {-1, 0, 5}) {
                all.append(x.at(poly, i)).append(' ');
            }
        }
        for (int i = 0; i < 16; i++) {
            all.append(x.told(i, i % 2)).append(' ');
        }
        for (int what = 0; what < 6; what++) {
            all.append(x.count(what)).append(' ');
        }
        return all.append(x.counted()).toString();
    }
}
