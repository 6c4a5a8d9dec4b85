import java.util.Random;

/**
 * Runs of calls drawn from fixed seeds, each answer compared with that of Model. What is told is asked for behind each
 * call, so a run has more than 512 calls: answers are free there, but the class as it stands does not count its calls.
 */
public final class ModelTest {
    private static final int[] NUMBERS = {0, 0, 1, 1, 2, 3, -1, -2, 7, 64, -100, 1000003, Integer.MAX_VALUE,
        Integer.MIN_VALUE};
    /** The edges of all that is bounded, at both sides. */
    private static final int[] WILD = {Integer.MIN_VALUE, Integer.MIN_VALUE + 1, -400, -12, -11, -10, -2, -1, 0, 1, 2,
        3, 4, 5, 8, 9, 11, 12, 13, 100, 300, 301, 400, 401, 1499, 1500, 1501, 3999, 4000, 4001, 5999, 6000, 6001, 20000,
        Integer.MAX_VALUE - 1, Integer.MAX_VALUE};
    private static final String[] SCRAPS = {"a", "b", "l", "m", "0", "1", "-", "-0", "00", "2147483647", "2147483648",
        "-2147483648", "-2147483649", "12345678901", "(", ")", ",", "a1", "b2(", "),c3", "b1(a1,a2)", "\u00ff"};

    private final Check check;
    private final Random random;
    private final NestedDeeds x = new NestedDeeds();
    private final Model model = new Model();
    private final int seed;

    private ModelTest(Check check, int seed) {
        this.check = check;
        this.seed = seed;
        this.random = new Random(seed);
    }

    public static void main(String[] args) {
        Check check = new Check("ModelTest");
        for (int seed = 0; seed < 500 && check.isClean(); seed++) {
            new ModelTest(check, seed).run();
        }
        check.finish();
    }

    private void run() {
        int style = seed % 5;
        for (int i = 0; i < 500 && check.isClean(); i++) {
            int roll = random.nextInt(100);
            if (style == 1 && roll < 15) {
                chain(1 + random.nextInt(120), random.nextInt(3) == 0 ? 2 : 1);
            } else if (style == 2 && roll < 15) {
                chain(1 + random.nextInt(6), 1 + random.nextInt(4));
            } else if (style == 3 && roll < 40) {
                scrap();
            } else if (style == 4 && roll < 60) {
                wild();
            } else if (roll < 30) {
                build();
            } else if (roll < 38) {
                settle();
            } else if (roll < 85) {
                walk();
            } else if (roll < 92) {
                paper();
            } else {
                ask();
            }
            told();
        }
        same();
    }

    private void due(String call, long got, long want) {
        check.due("seed " + seed + ": " + call, got, want);
    }

    private int anyNumber() {
        return NUMBERS[random.nextInt(NUMBERS.length)];
    }

    /** A deed, mostly a young one; at times one that is not. */
    private int anyDeed() {
        int n = model.count(0);
        int roll = random.nextInt(40);
        if (roll == 0) return -1 - random.nextInt(2);
        if (roll == 1) return n + random.nextInt(2);
        if (n == 0) return 0;
        return roll < 20 ? n - 1 - random.nextInt(Math.min(n, 4)) : random.nextInt(n);
    }

    private void chain(int n, int times) {
        int kind = random.nextInt(12);
        int number = anyNumber();
        int first = random.nextInt(3) == 0 ? -1 : anyDeed();
        String call = "chain(" + n + ", " + kind + ", " + number + ", " + times + ", " + first + ")";
        due(call, x.chain(n, kind, number, times, first), model.chain(n, kind, number, times, first));
    }

    private void build() {
        if (random.nextInt(3) == 0) {
            int kind = random.nextInt(30) == 0 ? 12 : random.nextInt(12);
            int number = anyNumber();
            due("deed(" + kind + ", " + number + ")", x.deed(kind, number), model.deed(kind, number));
        } else {
            int deed = anyDeed();
            int part = random.nextInt(8) == 0 ? anyDeed() : deed > 0 ? random.nextInt(deed) : 0;
            due("enclose(" + deed + ", " + part + ")", x.enclose(deed, part), model.enclose(deed, part));
        }
    }

    private void settle() {
        if (random.nextBoolean()) {
            int way = random.nextInt(6) - 1;
            due("way(" + way + ")", x.way(way), model.way(way));
        } else {
            int m = random.nextInt(3) == 0 ? random.nextInt(302) : random.nextInt(12);
            due("meter(" + m + ")", x.meter(m), model.meter(m));
        }
    }

    private void walk() {
        int d = anyDeed();
        switch (random.nextInt(14)) {
            case 0: due("size(" + d + ")", x.size(d), model.size(d)); break;
            case 1: due("depth(" + d + ")", x.depth(d), model.depth(d)); break;
            case 2: case 3: case 4: due("worth(" + d + ")", x.worth(d), model.worth(d)); break;
            case 5: due("mark(" + d + ")", x.mark(d), model.mark(d)); break;
            case 6: case 7: {
                int e = anyDeed();
                due("alike(" + d + ", " + e + ")", x.alike(d, e), model.alike(d, e));
                break;
            }
            case 8: due("write(" + d + ")", x.write(d), model.write(d)); break;
            case 9: {
                int kind = random.nextInt(14) - 1;
                int number = anyNumber();
                due("find(" + d + ", " + kind + ", " + number + ")", x.find(d, kind, number),
                    model.find(d, kind, number));
                break;
            }
            case 10: {
                int what = random.nextInt(4) - 1;
                due("widest(" + d + ", " + what + ")", x.widest(d, what), model.widest(d, what));
                break;
            }
            case 11: due("copy(" + d + ")", x.copy(d), model.copy(d)); break;
            case 12: {
                int t = anyNumber();
                due("thin(" + d + ", " + t + ")", x.thin(d, t), model.thin(d, t));
                break;
            }
            default: due("order(" + d + ")", x.order(d), model.order(d)); break;
        }
    }

    private void paper() {
        switch (random.nextInt(6)) {
            case 0: due("tear()", x.tear(), model.tear()); break;
            case 1: {
                int i = random.nextInt(20) - 2;
                due("byteAt(" + i + ")", x.byteAt(i), model.byteAt(i));
                break;
            }
            case 2: {
                long w = random.nextLong();
                int n = random.nextInt(10);
                due("feed(" + w + ", " + n + ")", x.feed(w, n), model.feed(w, n));
                break;
            }
            default: due("read()", x.read(), model.read()); break;
        }
    }

    private void scrap() {
        if (random.nextInt(4) == 0) {
            due("tear()", x.tear(), model.tear());
        }
        String scrap = SCRAPS[random.nextInt(SCRAPS.length)];
        for (int i = 0; i < scrap.length(); i++) {
            char c = scrap.charAt(i);
            due("feed(" + (int) c + ", 1)", x.feed(c, 1), model.feed(c, 1));
        }
        due("read()", x.read(), model.read());
    }

    private void ask() {
        int d = anyDeed();
        int i = random.nextInt(6) - 1;
        due("of(" + d + ", " + i + ")", x.of(d, i), model.of(d, i));
        due("part(" + d + ", " + i + ")", x.part(d, i), model.part(d, i));
    }

    private int wildInt() {
        int roll = random.nextInt(10);
        return roll == 0 ? random.nextInt() : roll < 4 ? random.nextInt(4) : WILD[random.nextInt(WILD.length)];
    }

    /** Any int for any argument. */
    private void wild() {
        int a = wildInt();
        int b = wildInt();
        int c = wildInt();
        String with = "(" + a + ", " + b + ", " + c + ")";
        switch (random.nextInt(13)) {
            case 0: due("deed" + with, x.deed(a, b), model.deed(a, b)); break;
            case 1: due("enclose" + with, x.enclose(a, b), model.enclose(a, b)); break;
            case 2: wildChain(a, b, c, wildInt(), wildInt()); break;
            case 3: due("way" + with, x.way(a), model.way(a)); break;
            case 4: due("meter" + with, x.meter(a), model.meter(a)); break;
            case 5: due("of" + with, x.of(a, b), model.of(a, b)); break;
            case 6: due("part" + with, x.part(a, b), model.part(a, b)); break;
            case 7: due("feed" + with, x.feed((long) c << 32 | a, b), model.feed((long) c << 32 | a, b)); break;
            case 8: due("byteAt" + with, x.byteAt(a), model.byteAt(a)); break;
            case 9: due("count" + with, x.count(a), model.count(a)); break;
            default: wildWalk(with, a, b, c); break;
        }
    }

    private void wildChain(int n, int kind, int number, int times, int first) {
        String call = "chain(" + n + ", " + kind + ", " + number + ", " + times + ", " + first + ")";
        due(call, x.chain(n, kind, number, times, first), model.chain(n, kind, number, times, first));
    }

    private void wildWalk(String with, int a, int b, int c) {
        switch (random.nextInt(11)) {
            case 0: due("size" + with, x.size(a), model.size(a)); break;
            case 1: due("depth" + with, x.depth(a), model.depth(a)); break;
            case 2: due("worth" + with, x.worth(a), model.worth(a)); break;
            case 3: due("mark" + with, x.mark(a), model.mark(a)); break;
            case 4: due("alike" + with, x.alike(a, b), model.alike(a, b)); break;
            case 5: due("write" + with, x.write(a), model.write(a)); break;
            case 6: due("find" + with, x.find(a, b, c), model.find(a, b, c)); break;
            case 7: due("widest" + with, x.widest(a, b), model.widest(a, b)); break;
            case 8: due("copy" + with, x.copy(a), model.copy(a)); break;
            case 9: due("thin" + with, x.thin(a, b), model.thin(a, b)); break;
            default: due("order" + with, x.order(a), model.order(a)); break;
        }
    }

    private void told() {
        due("answer()", x.answer(), model.answer());
        for (int what = -1; what <= 5; what++) {
            due("count(" + what + ")", x.count(what), model.count(what));
        }
    }

    private void same() {
        for (int d = 0; d < model.count(0); d++) {
            for (int what = 0; what < 3; what++) {
                due("of(" + d + ", " + what + ")", x.of(d, what), model.of(d, what));
            }
            for (int i = 0; i <= model.of(d, 1); i++) {
                due("part(" + d + ", " + i + ")", x.part(d, i), model.part(d, i));
            }
        }
        for (int i = 0; i <= model.count(2); i++) {
            due("byteAt(" + i + ")", x.byteAt(i), model.byteAt(i));
        }
    }
}
