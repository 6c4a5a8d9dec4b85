import java.math.BigInteger;
import java.util.ArrayList;
import java.util.Arrays;
import java.util.Comparator;
import java.util.List;
import java.util.function.ToLongFunction;

/** The document once more, by plain recursion over objects and with exceptions: what ModelTest compares with. */
final class Model {
    private static final class Node {
        int id = -1;
        final int kind;
        final int number;
        final List<Node> parts = new ArrayList<>();

        Node(int kind, int number) {
            this.kind = kind;
            this.number = number;
        }
    }

    private static final class Stop extends RuntimeException {
        private static final long serialVersionUID = 1;
        final int code;

        Stop(int code) {
            super(null, null, false, false);
            this.code = code;
        }
    }

    private static final int FOUND = 1;
    private static final int UNLIKE = 2;

    private final List<Node> deeds = new ArrayList<>();
    private String paper = "";
    private int way = 0;
    private int meter = 100;
    private int answer = 0;
    private int visited = 0;
    private int calls = 0;
    private int deepest = 0;

    private boolean has(int deed) {
        return 0 <= deed && deed < deeds.size();
    }

    private int allParts() {
        return deeds.stream().mapToInt(d -> d.parts.size()).sum();
    }

    private Node register(Node node) {
        node.id = deeds.size();
        deeds.add(node);
        return node;
    }

    int deed(int kind, int number) {
        if (kind < 0 || kind > 11) return -2;
        if (deeds.size() == 1500) return -4;
        return register(new Node(kind, number)).id;
    }

    int enclose(int deed, int part) {
        if (!has(deed) || !has(part)) return -2;
        if (part >= deed) return -3;
        if (allParts() == 4000) return -4;
        deeds.get(deed).parts.add(deeds.get(part));
        return deeds.get(deed).parts.size();
    }

    int chain(int n, int kind, int number, int times, int first) {
        if (n < 1 || n > 400 || kind < 0 || kind > 11 || times < 1 || times > 4) return -2;
        if (first != -1 && !has(first)) return -2;
        int more = times * (first == -1 ? n - 1 : n);
        if (deeds.size() + n > 1500 || allParts() + more > 4000) return -4;
        Node ahead = first == -1 ? null : deeds.get(first);
        for (int i = 0; i < n; i++) {
            Node next = new Node(kind, number);
            for (int k = 0; k < times; k++) if (ahead != null) next.parts.add(ahead);
            ahead = register(next);
        }
        return ahead.id;
    }

    int way(int w) {
        if (w < 0 || w > 3) return -2;
        int was = way;
        way = w;
        return was;
    }

    int meter(int m) {
        if (m < 1 || m > 300) return -2;
        int was = meter;
        meter = m;
        return was;
    }

    int of(int deed, int what) {
        if (!has(deed) || what < 0 || what > 2) return Integer.MIN_VALUE;
        Node d = deeds.get(deed);
        return what == 0 ? d.kind : what == 1 ? d.parts.size() : d.number;
    }

    int part(int deed, int i) {
        if (!has(deed) || i < 0 || i >= deeds.get(deed).parts.size()) return -2;
        return deeds.get(deed).parts.get(i).id;
    }

    // ---- walks

    private void visit(int depth) {
        if (visited == 20000) throw new Stop(-5);
        if (way == 0 && depth > meter) throw new Stop(-6);
        visited++;
        deepest = Math.max(deepest, depth);
    }

    /** 0, or what stopped the walk; result[0] is what it told. */
    private int walk(boolean fits, int deed, long[] result, ToLongFunction<Node> body) {
        if (!fits || !has(deed)) {
            answer = -2;
            return -2;
        }
        visited = 0;
        deepest = 0;
        answer = 0;
        int stopped = 0;
        try {
            result[0] = body.applyAsLong(deeds.get(deed));
        } catch (Stop stop) {
            stopped = stop.code;
            if (stopped == -5 || stopped == -6) answer = stopped;
        }
        calls = way == 0 ? deepest : way == 3 ? Math.min(deepest, meter) : 0;
        return stopped;
    }

    private long all(Node d, int depth) {
        visit(depth);
        for (Node p : d.parts) all(p, depth + 1);
        return 0;
    }

    int size(int deed) {
        int stopped = walk(true, deed, new long[1], d -> all(d, 1));
        return stopped != 0 ? stopped : visited;
    }

    int depth(int deed) {
        int stopped = walk(true, deed, new long[1], d -> all(d, 1));
        return stopped != 0 ? stopped : deepest;
    }

    private long worthOf(Node d, int depth) {
        visit(depth);
        long n = d.number;
        List<Node> parts = d.parts;
        if (d.kind == 0) return n;
        if (d.kind == 7) {
            if (parts.isEmpty()) return n;
            long w = worthOf(parts.get(0), depth + 1);
            if (parts.size() == 1) return w;
            long others = parts.size() - 1;
            long which = BigInteger.valueOf(w).mod(BigInteger.valueOf(others)).longValue();
            return worthOf(parts.get(1 + (int) which), depth + 1);
        }
        if (d.kind == 8) {
            for (Node p : parts) {
                long w = worthOf(p, depth + 1);
                if (w != 0) return w;
            }
            return n;
        }
        long[] w = new long[parts.size()];
        for (int i = 0; i < w.length; i++) w[i] = worthOf(parts.get(i), depth + 1);
        switch (d.kind) {
            case 1: return n + Arrays.stream(w).sum();
            case 2: return Arrays.stream(w).reduce(n, (a, b) -> a * b);
            case 3: return w.length == 0 ? n : 2 * w[0] - Arrays.stream(w).sum();
            case 4: return Arrays.stream(w).reduce(n, Math::max);
            case 5: return Arrays.stream(w).reduce(n, Math::min);
            case 6: return Arrays.stream(w).reduce(0, (r, x) -> r * n + x);
            case 9: return Arrays.stream(w).distinct().count() <= 1 ? 1 : 0;
            case 10: {
                long r = n;
                for (int i = 0; i < w.length; i++) {
                    int by = i % 64;
                    r ^= by == 0 ? w[i] : (w[i] << by) | (w[i] >>> (64 - by));
                }
                return r;
            }
            default: return n + w.length;
        }
    }

    long worth(int deed) {
        long[] result = new long[1];
        return walk(true, deed, result, d -> worthOf(d, 1)) == 0 ? result[0] : 0;
    }

    private long markOf(Node d, int depth, boolean visiting) {
        if (visiting) visit(depth);
        long h = 7;
        h = h * 31 + d.kind;
        h = h * 31 + d.number;
        for (Node p : d.parts) h = h * 1000003L ^ markOf(p, depth + 1, visiting);
        return h ^ h >>> 29;
    }

    long mark(int deed) {
        long[] result = new long[1];
        return walk(true, deed, result, d -> markOf(d, 1, true)) == 0 ? result[0] : 0;
    }

    private long compare(Node a, Node b, int depth) {
        visit(depth);
        if (a == b) return 1;
        if (a.kind != b.kind || a.number != b.number || a.parts.size() != b.parts.size()) throw new Stop(UNLIKE);
        for (int i = 0; i < a.parts.size(); i++) compare(a.parts.get(i), b.parts.get(i), depth + 1);
        return 1;
    }

    int alike(int a, int b) {
        int stopped = walk(has(b), a, new long[1], d -> compare(d, deeds.get(b), 1));
        return stopped == 0 ? 1 : stopped == UNLIKE ? 0 : stopped;
    }

    private long writeOut(Node d, int depth, StringBuilder text) {
        visit(depth);
        put(text, (char) ('a' + d.kind) + String.valueOf(d.number));
        if (d.parts.isEmpty()) return 0;
        String between = "(";
        for (Node p : d.parts) {
            put(text, between);
            writeOut(p, depth + 1, text);
            between = ",";
        }
        put(text, ")");
        return 0;
    }

    private static void put(StringBuilder text, String more) {
        text.append(more);
        if (text.length() > 6000) throw new Stop(-4);
    }

    int write(int deed) {
        StringBuilder text = new StringBuilder();
        int stopped = walk(true, deed, new long[1], d -> writeOut(d, 1, text));
        if (stopped != 0) return stopped;
        paper = text.toString();
        return paper.length();
    }

    private long seek(Node d, int depth, int kind, int number) {
        visit(depth);
        if (d.kind == kind && d.number == number) throw new Stop(FOUND);
        for (Node p : d.parts) seek(p, depth + 1, kind, number);
        return 0;
    }

    int find(int deed, int kind, int number) {
        int stopped = walk(kind >= 0 && kind <= 11, deed, new long[1], d -> seek(d, 1, kind, number));
        return stopped == 0 ? -1 : stopped == FOUND ? visited - 1 : stopped;
    }

    private long tally(Node d, int depth, int[] row) {
        visit(depth);
        row[depth]++;
        for (Node p : d.parts) tally(p, depth + 1, row);
        return 0;
    }

    int widest(int deed, int what) {
        int[] row = new int[1502];
        int stopped = walk(what == 0 || what == 1, deed, new long[1], d -> tally(d, 1, row));
        if (stopped != 0) return stopped;
        int most = Arrays.stream(row).max().getAsInt();
        int at = 0;
        while (row[at] != most) at++;
        return what == 0 ? at : most;
    }

    private static Node twin(Node d, int t, boolean inOrder, long[] marks, int[] made) {
        made[0]++;
        Node fresh = new Node(d.kind, d.number);
        List<Node> parts = new ArrayList<>(d.parts);
        parts.removeIf(p -> p.kind == 0 && p.number > t);
        if (inOrder) parts.sort(Comparator.comparingLong(p -> marks[p.id]));
        for (Node p : parts) fresh.parts.add(twin(p, t, inOrder, marks, made));
        return fresh;
    }

    private Node registerAll(Node fresh) {
        for (Node p : fresh.parts) registerAll(p);
        return register(fresh);
    }

    private int remake(int deed, int t, boolean inOrder) {
        int stopped = walk(true, deed, new long[1], d -> all(d, 1));
        if (stopped != 0) return stopped;
        long[] marks = new long[deeds.size()];
        if (inOrder && visited <= 1500) {
            for (int i = 0; i < marks.length; i++) {
                long h = (7L * 31 + deeds.get(i).kind) * 31 + deeds.get(i).number;
                for (Node p : deeds.get(i).parts) h = h * 1000003L ^ marks[p.id];
                marks[i] = h ^ h >>> 29;
            }
        }
        int[] made = new int[1];
        Node fresh = twin(deeds.get(deed), t, inOrder, marks, made);
        return make(fresh, made[0]);
    }

    private int make(Node fresh, int n) {
        if (deeds.size() + n > 1500 || allParts() + n - 1 > 4000) return -4;
        return registerAll(fresh).id;
    }

    int copy(int deed) {
        return remake(deed, Integer.MAX_VALUE, false);
    }

    int thin(int deed, int t) {
        return remake(deed, t, false);
    }

    int order(int deed) {
        return remake(deed, Integer.MAX_VALUE, true);
    }

    // ---- paper

    int feed(long w, int n) {
        if (n < 1 || n > 8) return -2;
        if (paper.length() + n > 6000) return -4;
        byte[] eight = java.nio.ByteBuffer.allocate(8).putLong(w).array();
        for (int i = 8 - n; i < 8; i++) paper += (char) (eight[i] & 255);
        return paper.length();
    }

    int tear() {
        int had = paper.length();
        paper = "";
        return had;
    }

    int byteAt(int i) {
        return i >= 0 && i < paper.length() ? paper.charAt(i) : -1;
    }

    private char look(int at) {
        return at < paper.length() ? paper.charAt(at) : '\uffff';
    }

    private Node parse(int[] at, int[] made) {
        char letter = look(at[0]);
        if (letter < 'a' || letter > 'l') throw new Stop(at[0]);
        at[0]++;
        int from = at[0];
        int end = from;
        if (look(end) == '-') end++;
        int figures = end;
        while (look(end) >= '0' && look(end) <= '9') end++;
        if (end == figures) throw new Stop(end);
        if (look(figures) == '0' && figures > from) throw new Stop(figures);
        if (look(figures) == '0' && end > figures + 1) throw new Stop(figures + 1);
        BigInteger value = new BigInteger(paper.substring(from, end));
        if (value.bitLength() > 31) throw new Stop(from);
        Node node = new Node(letter - 'a', value.intValue());
        made[0]++;
        at[0] = end;
        if (look(end) != '(') return node;
        do {
            at[0]++;
            node.parts.add(parse(at, made));
        } while (look(at[0]) == ',');
        if (look(at[0]) != ')') throw new Stop(at[0]);
        at[0]++;
        return node;
    }

    int read() {
        int[] at = new int[1];
        int[] made = new int[1];
        Node fresh;
        try {
            fresh = parse(at, made);
            if (at[0] != paper.length()) throw new Stop(at[0]);
        } catch (Stop stop) {
            return -10 - stop.code;
        }
        return make(fresh, made[0]);
    }

    // ---- told

    int answer() {
        return answer;
    }

    int count(int what) {
        switch (what) {
            case 0: return deeds.size();
            case 1: return allParts();
            case 2: return paper.length();
            case 3: return visited;
            case 4: return calls;
            default: return -2;
        }
    }
}
