import java.util.Arrays;

/** A NestedDeeds that counts its calls: what it answers behind the 512th is free, so no edge test may look there. */
final class Archive {
    static final int MOST_CALLS = 512;

    private final NestedDeeds deeds = new NestedDeeds();
    private int calls;

    private NestedDeeds call() {
        calls++;
        if (calls > MOST_CALLS) {
            throw new IllegalStateException("a test makes more than 512 calls on an object");
        }
        return deeds;
    }

    int callsLeft() {
        return MOST_CALLS - calls;
    }

    int deed(int kind, int number) {
        return call().deed(kind, number);
    }

    int enclose(int deed, int part) {
        return call().enclose(deed, part);
    }

    int chain(int n, int kind, int number, int times, int first) {
        return call().chain(n, kind, number, times, first);
    }

    int way(int way) {
        return call().way(way);
    }

    int meter(int m) {
        return call().meter(m);
    }

    int of(int deed, int what) {
        return call().of(deed, what);
    }

    int part(int deed, int i) {
        return call().part(deed, i);
    }

    int size(int deed) {
        return call().size(deed);
    }

    int depth(int deed) {
        return call().depth(deed);
    }

    long worth(int deed) {
        return call().worth(deed);
    }

    long mark(int deed) {
        return call().mark(deed);
    }

    int alike(int a, int b) {
        return call().alike(a, b);
    }

    int write(int deed) {
        return call().write(deed);
    }

    int find(int deed, int kind, int number) {
        return call().find(deed, kind, number);
    }

    int widest(int deed, int what) {
        return call().widest(deed, what);
    }

    int copy(int deed) {
        return call().copy(deed);
    }

    int thin(int deed, int t) {
        return call().thin(deed, t);
    }

    int order(int deed) {
        return call().order(deed);
    }

    int feed(long w, int n) {
        return call().feed(w, n);
    }

    int tear() {
        return call().tear();
    }

    int byteAt(int i) {
        return call().byteAt(i);
    }

    int read() {
        return call().read();
    }

    int answer() {
        return call().answer();
    }

    int count(int what) {
        return call().count(what);
    }

    // ---- what tests build of these

    int bound(int kind, int number, int... parts) {
        int deed = deed(kind, number);
        for (int part : parts) {
            enclose(deed, part);
        }
        return deed;
    }

    /** Eight bytes a call, since calls are few. */
    void feedText(String text) {
        for (int from = 0; from < text.length(); from += 8) {
            int end = Math.min(from + 8, text.length());
            long w = 0;
            for (int i = from; i < end; i++) {
                w = w << 8 | text.charAt(i);
            }
            feed(w, end - from);
        }
    }

    String paperText() {
        int length = count(2);
        StringBuilder text = new StringBuilder();
        for (int i = 0; i < length; i++) {
            text.append((char) byteAt(i));
        }
        return text.toString();
    }

    /** On paper, so only for texts that are short. */
    String textOf(int deed) {
        write(deed);
        return paperText();
    }

    /** Deeds a(0) and b(0) with a as its part are 0 and 1; then others, up to so many in all. */
    void fillDeeds(int deeds) {
        bound(1, 0, deed(0, 0));
        for (int rest = deeds - 2; rest > 0; rest -= 400) {
            chain(Math.min(rest, 400), 1, 0, 1, -1);
        }
    }

    /** Deeds 0 and 1 as by fillDeeds; then others, up to so many parts in all. */
    void fillParts(int parts) {
        int last = bound(1, 0, deed(0, 0));
        int rest = parts - 1;
        for (int n; rest >= 4; rest -= 4 * (n - 1)) {
            n = Math.min(400, rest / 4 + 1);
            last = chain(n, 1, 0, 4, -1);
        }
        for (; rest > 0; rest--) {
            enclose(last, 0);
        }
    }

    /** The first of 14 deeds b1, each with the one ahead twice: number k of them visits 2^(k + 1) - 1. */
    int doubles() {
        return chain(14, 1, 1, 2, -1) - 13;
    }

    /** Encloses doubles, so that so many more are visited in a deed. */
    void encloseVisits(int deed, int doubles, int visits) {
        int rest = visits;
        for (int k = 13; k >= 0; k--) {
            int size = (2 << k) - 1;
            for (; rest >= size; rest -= size) {
                enclose(deed, doubles + k);
            }
        }
    }

    /** A deed b1 from which so many are visited, all b1; the deepest at depth 15, if they are 16384 or more. */
    int visiting(int visits) {
        int doubles = doubles();
        int root = deed(1, 1);
        encloseVisits(root, doubles, visits - 1);
        return root;
    }

    /** Parts that are written in so many bytes, with a comma or bracket behind each: doubles, and a leaf at most. */
    int[] writing(int doubles, int bytes) {
        int[] parts = new int[64];
        int n = 0;
        int rest = bytes;
        for (int k = 9; k >= 0; k--) {
            int size = 7 * (1 << k) - 5 + 1;
            for (; rest == size || rest >= size + 3; rest -= size) {
                parts[n++] = doubles + k;
            }
        }
        if (rest > 0) {
            parts[n++] = deed(0, (int) Math.pow(10, rest - 3));
        }
        return Arrays.copyOf(parts, n);
    }
}
