/** READ: each way in which a text cannot be read, and THE PLACE; a text that cannot be read changes nothing. */
public final class ReadEdgeTest {
    private static final Edge EDGE = new Edge("ReadEdgeTest");
    private static final int FULL = NestedDeeds.FULL;
    private static final String FIGURES = "0123456789", KINDS = "abcdefghijkl";

    public static void main(String[] args) {
        kinds();
        figures();
        noZerosAhead();
        minus();
        withinAnInt();
        firstFigureOfNoInt();
        parts();
        tooShort();
        behindAWholeOne();
        everyByteAtEveryTurn();
        fromBeginningToEnd();
        madePartsFirst();
        noWalk();
        deepTexts();
        fullBehindAWholeText();
        EDGE.finish();
    }

    /** Something is there that a failed reading could spoil. */
    private static void before(Archive x, String text) {
        x.bound(1, 5, x.deed(0, 4), x.deed(0, 3));
        x.way(3);
        x.meter(7);
        x.size(2);
        x.feedText(text);
    }

    private static void duePlace(String says, String text, int place) {
        EDGE.refused("READ: " + says + ": '" + text + "'", x -> before(x, text), Archive::read, -10 - place);
    }

    /** It is read, and is written again as it was. */
    private static void dueRead(String says, String text) {
        Archive x = new Archive();
        before(x, text);
        int deed = x.read();
        EDGE.due("READ: " + says + ": '" + text + "'", deed, x.count(0) - 1);
        EDGE.dueText("READ: " + says + ": PAPER stays", x.paperText(), text);
        x.tear();
        EDGE.dueText("READ: " + says + ": written again", x.textOf(deed), text);
    }

    private static void kinds() {
        String says = "KINDS a to l";
        for (int i = 0; i < KINDS.length(); i++) {
            dueRead(says, KINDS.charAt(i) + "1");
            dueRead(says, "b1(" + KINDS.charAt(i) + "1)");
            dueRead(says, "b1(a1," + KINDS.charAt(i) + "1)");
            Archive x = new Archive();
            x.feedText(KINDS.charAt(i) + "1");
            x.read();
            EDGE.due(says, x.of(0, 0), i);
        }
        for (String none : new String[] {"`", "m", "A", "L", " ", "0", "(", "\u0000", "\u00ff", "\u00e1"}) {
            duePlace(says, none + "1", 0);
            duePlace(says, "b1(" + none + "1)", 3);
            duePlace(says, "b1(a1," + none + "1)", 6);
        }
    }

    private static void figures() {
        String says = "figures (1 to 10)";
        duePlace(says + ", none", "a", 1);
        duePlace(says + ", none", "a(b1)", 1);
        duePlace(says + ", none", "b1(a)", 4);
        duePlace(says + ", below 0", "a/", 1);
        duePlace(says + ", above 9", "a:", 1);
        duePlace(says + ", none but a +", "a+1", 1);
        for (int i = 1; i <= 10; i++) {
            dueRead(says, "a" + "1234567890".substring(0, i));
            dueRead(says, "a-" + "1234567890".substring(0, i));
        }
        duePlace(says + ", 11", "a12345678901", 1);
        duePlace(says + ", 11", "a-12345678901", 1);
        duePlace(says + ", 11", "a10000000000", 1);
    }

    private static void noZerosAhead() {
        String says = "without 0s ahead";
        dueRead(says, "a0");
        dueRead(says, "a10");
        dueRead(says, "a100");
        dueRead(says, "a1000000000");
        dueRead(says, "b0(a0,a0)");
        duePlace(says, "a00", 2);
        duePlace(says, "a01", 2);
        duePlace(says, "a007", 2);
        duePlace(says, "a02147483647", 2);
        duePlace(says, "b0(a00)", 5);
        duePlace(says, "b00(a0)", 2);
        duePlace(says, "b0(a1,a01)", 8);
    }

    private static void minus() {
        String says = "- but not -0";
        dueRead(says, "a-1");
        dueRead(says, "a-9");
        dueRead(says, "a-10");
        dueRead(says, "b-1(a-2,a-3)");
        duePlace(says, "a-0", 2);
        duePlace(says, "a-01", 2);
        duePlace(says, "a-00", 2);
        duePlace(says, "b1(a-0)", 5);
        duePlace(says + ", no figure behind it", "a-", 2);
        duePlace(says + ", no figure behind it", "a-(", 2);
        duePlace(says + ", no figure behind it", "b1(a-)", 5);
        duePlace(says + ", nor another", "a--1", 2);
        duePlace(says + ", nor behind figures", "a1-", 2);
    }

    private static void withinAnInt() {
        String says = "within an int";
        dueRead(says + ", the greatest", "a2147483647");
        dueRead(says + ", the least", "a-2147483648");
        dueRead(says + ", each PART", "b2147483647(a-2147483648,a2147483647)");
        Archive x = new Archive();
        x.feedText("b2147483647(a-2147483648)");
        x.read();
        EDGE.due(says + ", the greatest", x.of(1, 2), Integer.MAX_VALUE);
        EDGE.due(says + ", the least", x.of(0, 2), Integer.MIN_VALUE);
        duePlace(says + ", one more", "a2147483648", 1);
        duePlace(says + ", one less", "a-2147483649", 1);
        duePlace(says + ", not as an int that wraps", "a4294967301", 1);
        duePlace(says + ", not as a long that wraps", "a18446744073709551617", 1);
        duePlace(says + ", not as a long that wraps", "a-18446744073709551617", 1);
        duePlace(says + ", ten 9s", "a9999999999", 1);
        duePlace(says + ", very many figures", "a" + "9".repeat(400), 1);
        duePlace(says + ", very many figures", "a1" + "0".repeat(400), 1);
    }

    private static void firstFigureOfNoInt() {
        String says = "of a NUMBER (its longest row of figures) that is no int its first figure or -";
        duePlace(says + ", behind an int", "a21474836470", 1);
        duePlace(says + ", not the byte behind it", "a2147483648x", 1);
        duePlace(says + ", not the end", "b1(a99999999999", 4);
        duePlace(says + ", not the end", "b1(a-99999999999", 4);
        duePlace(says + ", in a PART", "b1(a2147483648)", 4);
        duePlace(says + ", in the last PART", "b1(a2147483647,a2147483648)", 16);
        duePlace(says + ", the first of two", "b2147483648(a2147483648)", 1);
        duePlace(says + ", -", "b1(a-2147483649,x", 4);
        duePlace(says + ", but a fault ahead of it comes first", "b1(x,a2147483648)", 3);
        duePlace(says + ", but an int is one", "b1(a2147483647x", 14);
    }

    private static void parts() {
        String says = "PARTS";
        dueRead(says + ", one", "b1(a1)");
        dueRead(says + ", two", "b1(a1,a2)");
        dueRead(says + ", within", "b1(a1(a2(a3),a4),a5)");
        duePlace(says + ", none", "b1()", 3);
        duePlace(says + ", none first", "b1(,a1)", 3);
        duePlace(says + ", none last", "b1(a1,)", 6);
        duePlace(says + ", none between", "b1(a1,,a2)", 6);
        duePlace(says + ", no comma", "b1(a1a2)", 5);
        duePlace(says + ", another comma", "b1(a1;a2)", 5);
        duePlace(says + ", no bracket", "b1a1)", 2);
        duePlace(says + ", another bracket", "b1[a1]", 2);
        duePlace(says + ", another bracket", "b1(a1]", 5);
        duePlace(says + ", twice", "b1(a1)(a2)", 6);
        duePlace(says + ", twice within", "c1(b1(a1)(a2))", 9);
        duePlace(says + ", a space", "b1( a1)", 3);
        duePlace(says + ", a space", "b1(a1, a2)", 6);
    }

    /** Each beginning of a text that is no text itself; two of them are. */
    private static void tooShort() {
        String says = "(the end, if it is too short)";
        String text = "b-10(a0,l7(c2147483647),d5)";
        for (int length = 0; length < text.length(); length++) {
            String begun = text.substring(0, length);
            if (begun.equals("b-1") || begun.equals("b-10")) {
                dueRead(says, begun);
            } else {
                duePlace(says, begun, length);
            }
        }
        dueRead(says, text);
    }

    private static void behindAWholeOne() {
        String says = "behind a whole one the next byte";
        for (char next = 0; next <= 255; next++) {
            duePlaceOnly(says, "b1(a1)" + next, 6);
            duePlaceOnly(says, "b1(a1)" + next + "a1", 6);
        }
        duePlace(says, "a1a1", 2);
        duePlace(says, "a1,a1", 2);
        duePlace(says, "a1)", 2);
        duePlace(says, "a0)", 2);
        duePlace(says, "b1(a1))", 6);
        duePlace(says, "b1(a1),a1", 6);
        duePlace(says, "b1(a1)b1(a1)", 6);
    }

    private static void duePlaceOnly(String says, String text, int place) {
        EDGE.taken("READ: " + says + ": '" + text + "'", x -> x.feedText(text), Archive::read, -10 - place);
    }

    /** Behind a beginning only these bytes go on; each other one is THE PLACE, and none of these is. */
    private static void dueNext(String begun, String goOn) {
        for (char next = 0; next <= 255; next++) {
            String text = begun + next;
            if (goOn.indexOf(next) < 0) {
                duePlaceOnly("the first byte with which such a text does not go on", text, begun.length());
                continue;
            }
            Archive x = new Archive();
            x.feedText(text);
            int read = x.read();
            boolean goesOn = read >= 0 || read == -10 - text.length();
            EDGE.due("READ: a byte with which such a text goes on: '" + text + "'", goesOn ? 1 : 0, 1);
        }
    }

    private static void everyByteAtEveryTurn() {
        dueNext("", KINDS);
        dueNext("l", "-" + FIGURES);
        dueNext("l-", "123456789");
        dueNext("l0", "(");
        dueNext("l5", "(" + FIGURES);
        dueNext("l-5", "(" + FIGURES);
        dueNext("l5(", KINDS);
        dueNext("l5(a", "-" + FIGURES);
        dueNext("l5(a-", "123456789");
        dueNext("l5(a0", "(,)");
        dueNext("l5(a7", "(,)" + FIGURES);
        dueNext("l5(a7,", KINDS);
        dueNext("l5(a7(b1)", ",)");
        dueNext("l5(a7)", "");
        dueNext("l5(a7,b8)", "");
    }

    private static void fromBeginningToEnd() {
        String says = "PAPER from its beginning to its end";
        duePlace(says + ", empty", "", 0);
        duePlace(says + ", a byte ahead", " a1", 0);
        duePlace(says + ", a byte behind", "a1 ", 2);
        duePlace(says + ", a 0 behind", "a1\u0000", 2);
        Archive x = new Archive();
        x.feedText("b1(a2,a3)");
        x.tear();
        x.feedText("b1(a2");
        EDGE.due(says + ", not what was behind it", x.read(), -15);
        x.feedText(")");
        EDGE.due(says + ", what is fed behind it", x.read(), 1);
        EDGE.due(says + ", as often as it is asked for", x.read(), 3);
        x.tear();
        EDGE.due(says + ", torn", x.read(), -10);
    }

    private static void madePartsFirst() {
        String says = "What is read is made, PARTS first, as for COPIED";
        Archive x = new Archive();
        x.feedText("b1(c2(a3,a4),d5,e6(f7))");
        EDGE.due(says, x.read(), 6);
        int[] kinds = {0, 0, 2, 3, 5, 4, 1};
        int[] numbers = {3, 4, 2, 5, 7, 6, 1};
        int[] parts = {0, 0, 2, 0, 0, 1, 3};
        for (int deed = 0; deed <= 6; deed++) {
            EDGE.due(says + ": KIND of " + deed, x.of(deed, 0), kinds[deed]);
            EDGE.due(says + ": PARTS of " + deed, x.of(deed, 1), parts[deed]);
            EDGE.due(says + ": NUMBER of " + deed, x.of(deed, 2), numbers[deed]);
        }
        int[][] due = {{2, 0, 0}, {2, 1, 1}, {6, 0, 2}, {6, 1, 3}, {6, 2, 5}, {5, 0, 4}};
        for (int[] row : due) {
            EDGE.due(says + ": PART " + row[1] + " of " + row[0], x.part(row[0], row[1]), row[2]);
        }
        EDGE.due(says + ": all PARTS", x.count(1), 6);
        EDGE.due(says + ": like ones are made again", x.read(), 13);
    }

    private static void noWalk() {
        String says = "It is no WALK";
        Archive x = new Archive();
        before(x, "b1(a1)");
        Edge.Told told = new Edge.Told(0, 3, 2);
        EDGE.told(says + ", ahead", x, told);
        x.read();
        EDGE.told(says + ", behind", x, told);
        x.size(99);
        x.read();
        EDGE.told(says + ", behind BAD", x, new Edge.Told(NestedDeeds.BAD, 3, 2));
        x.way(0);
        x.meter(1);
        EDGE.due(says + ", so it is not DEEP", x.read(), 8);
    }

    /** As many as 512 calls can feed. */
    private static void deepTexts() {
        String says = "READ: deep texts";
        Archive x = new Archive();
        x.feedText("a0(".repeat(1000) + "a0" + ")".repeat(1000));
        EDGE.due(says, x.read(), 1000);
        Archive y = new Archive();
        y.feedText("a0(".repeat(1350));
        EDGE.due(says + ", too short", y.read(), -10 - 4050);
        Archive z = new Archive();
        z.feedText("a0(".repeat(1000) + "a0" + ")".repeat(1000) + ")");
        EDGE.due(says + ", one bracket more", z.read(), -10 - 4002);
        Archive wide = new Archive();
        wide.feedText("a0(a0" + ",a0".repeat(1333) + ")");
        EDGE.due(says + ", or wide", wide.read(), 1334);
        EDGE.due(says + ", or wide: PARTS", wide.of(1334, 1), 1334);
    }

    private static void room(Archive x, int deeds, String text) {
        x.fillDeeds(deeds);
        x.size(1);
        x.feedText(text);
    }

    private static void fullBehindAWholeText() {
        String says = "FULL: too many DEEDS, PARTS (all of PAPER is as it ought to be): ";
        EDGE.taken(says + "room for 4", x -> room(x, 1496, "b1(a1,c1(a1))"), Archive::read, 1499);
        EDGE.refused(says + "room for 3", x -> room(x, 1497, "b1(a1,c1(a1))"), Archive::read, FULL);
        EDGE.refused(says + "room for none", x -> room(x, 1500, "b1(a1,c1(a1))"), Archive::read, FULL);
        String[] faulty = {"b1(a1,c1(a1)", "b1(a1,c1(a1)))", "b1(a1,c1(a1)x", "b1(a1,c1(a1"};
        int[] places = {12, 13, 12, 11};
        for (int i = 0; i < faulty.length; i++) {
            String text = faulty[i];
            EDGE.refused(says + "not '" + text + "'", x -> room(x, 1500, text), Archive::read, -10 - places[i]);
        }
        EDGE.refused(says + "not an empty one", x -> room(x, 1500, ""), Archive::read, -10);
        EDGE.taken(says + "room for 3 PARTS", x -> {
            x.fillParts(3997);
            x.feedText("b1(a1,c1(a1))");
        }, x -> x.read() >= 0 ? x.count(1) : -1, 4000);
        EDGE.refused(says + "room for 2 PARTS", x -> {
            x.fillParts(3998);
            x.feedText("b1(a1,c1(a1))");
        }, Archive::read, FULL);
    }
}
