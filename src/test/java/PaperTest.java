/** Promises 20 to 23: feed, tear, byteAt, read. */
public final class PaperTest {
    private static final Check CHECK = new Check("PaperTest");

    public static void main(String[] args) {
        promise20Feed();
        promise20FeedFull();
        promise21Tear();
        promise22ByteAt();
        promise23Read();
        promise23ReadNumbers();
        promise23ReadPlaces();
        promise23ReadDeep();
        promise23ReadFull();
        CHECK.finish();
    }

    private static void due(String call, long got, long want) {
        CHECK.due(call, got, want);
    }

    private static void promise20Feed() {
        NestedDeeds x = new NestedDeeds();
        due("20 feed 1", x.feed(0x1234L, 1), 1);
        due("20 feed 3", x.feed(0xff0080ffL, 3), 4);
        due("20 feed 8", x.feed(0x8182838485868788L, 8), 12);
        int[] bytes = {0x34, 0x00, 0x80, 0xff, 0x81, 0x82, 0x83, 0x84, 0x85, 0x86, 0x87, 0x88};
        for (int i = 0; i < bytes.length; i++) {
            due("20 byte " + i, x.byteAt(i), bytes[i]);
        }
        due("20 n 0", x.feed(1, 0), NestedDeeds.BAD);
        due("20 n 9", x.feed(1, 9), NestedDeeds.BAD);
        due("20 n below 0", x.feed(1, -1), NestedDeeds.BAD);
        due("20 bytes", x.count(2), 12);
        x.deed(0, 1);
        due("20 behind what is written", x.write(0), 2);
        due("20 behind what is written", x.feed('5', 1), 3);
        due("20 a15", x.read(), 1);
        due("20 a15", x.of(1, 2), 15);
    }

    /** An object is used for 512 calls: 6000 bytes are there sooner by writing than by feeding. */
    private static void promise20FeedFull() {
        NestedDeeds x = new NestedDeeds();
        x.chain(10, 1, 0, 2, -1);
        int[] parts = {9, 8, 6, 4, 3, 1, 0, 0, 0};
        int root = x.deed(1, 0);
        for (int part : parts) {
            x.enclose(root, part);
        }
        due("20 5994 bytes", x.write(root), 5994);
        due("20 7 more", x.feed(0, 7), NestedDeeds.FULL);
        due("20 BAD ahead of FULL", x.feed(0, 9), NestedDeeds.BAD);
        due("20 6 more", x.feed(0x616263646566L, 6), 6000);
        due("20 the last byte", x.byteAt(5999), 'f');
        due("20 1 more", x.feed(0, 1), NestedDeeds.FULL);
        due("20 bytes", x.count(2), 6000);
    }

    private static void promise21Tear() {
        NestedDeeds x = new NestedDeeds();
        due("21 tear nothing", x.tear(), 0);
        Check.feed(x, "b1(a2)");
        due("21 tear", x.tear(), 6);
        due("21 bytes", x.count(2), 0);
        due("21 byteAt(0)", x.byteAt(0), NestedDeeds.NONE);
        due("21 tear again", x.tear(), 0);
        due("21 feed behind it", x.feed('x', 1), 1);
        due("21 byteAt(0)", x.byteAt(0), 'x');
    }

    private static void promise22ByteAt() {
        NestedDeeds x = new NestedDeeds();
        x.feed(0xff00, 2);
        due("22 byteAt(0)", x.byteAt(0), 255);
        due("22 byteAt(1)", x.byteAt(1), 0);
        due("22 byteAt(2)", x.byteAt(2), NestedDeeds.NONE);
        due("22 byteAt(-1)", x.byteAt(-1), NestedDeeds.NONE);
        due("22 byteAt(6000)", x.byteAt(6000), NestedDeeds.NONE);
        due("22 byteAt(least)", x.byteAt(Integer.MIN_VALUE), NestedDeeds.NONE);
    }

    private static void promise23Read() {
        NestedDeeds x = new NestedDeeds();
        due("23 one deed", Check.readText(x, "l-5"), 0);
        due("23 kind", x.of(0, 0), 11);
        due("23 number", x.of(0, 2), -5);
        due("23 no part", x.of(0, 1), 0);
        String text = "b1(c2(a3,a4),d5,e6(f7(g8)))";
        due("23 nested", Check.readText(x, text), 8);
        due("23 part(8, 0)", x.part(8, 0), 3);
        due("23 part(3, 0)", x.part(3, 0), 1);
        due("23 part(3, 1)", x.part(3, 1), 2);
        due("23 part(8, 1)", x.part(8, 1), 4);
        due("23 part(8, 2)", x.part(8, 2), 7);
        due("23 part(7, 0)", x.part(7, 0), 6);
        due("23 part(6, 0)", x.part(6, 0), 5);
        due("23 parts", x.count(1), 7);
        CHECK.due("23 paper stays", Check.paper(x), text);
        CHECK.due("23 written again", Check.written(x, 8), text);
        due("23 answer() is that of write", x.count(3), 8);
        x.size(0);
        x.read();
        due("23 it is no walk", x.count(3), 1);
        x.size(-1);
        x.read();
        due("23 it is no walk", x.answer(), NestedDeeds.BAD);
    }

    private static void dueNumber(String figures) {
        NestedDeeds x = new NestedDeeds();
        due("23 a" + figures, Check.readText(x, "a" + figures), 0);
        due("23 number of a" + figures, x.of(0, 2), Integer.parseInt(figures));
    }

    private static void promise23ReadNumbers() {
        String[] all = {"0", "9", "10", "-1", "2147483647", "-2147483648", "1000000000", "-10", "123456789"};
        for (String figures : all) {
            dueNumber(figures);
        }
    }

    private static void duePlace(String text, int place) {
        NestedDeeds x = new NestedDeeds();
        due("23 read() of " + text, Check.readText(x, text), -10 - place);
        due("23 deeds of " + text, x.count(0), 0);
        due("23 bytes of " + text, x.count(2), text.length());
    }

    private static void promise23ReadPlaces() {
        duePlace("", 0);
        duePlace("m1", 0);
        duePlace("`1", 0);
        duePlace("A1", 0);
        duePlace("1", 0);
        duePlace("a", 1);
        duePlace("a(", 1);
        duePlace("a+1", 1);
        duePlace("a/", 1);
        duePlace("a:", 1);
        duePlace("a-", 2);
        duePlace("a--1", 2);
        duePlace("a-0", 2);
        duePlace("a-01", 2);
        duePlace("a00", 2);
        duePlace("a01", 2);
        duePlace("a09999999999", 2);
        duePlace("a1 ", 2);
        duePlace("a1a2", 2);
        duePlace("a1,a2", 2);
        duePlace("a1)", 2);
        duePlace("a2147483648", 1);
        duePlace("a-2147483649", 1);
        duePlace("a9999999999", 1);
        duePlace("a10000000000", 1);
        duePlace("a-10000000000", 1);
        duePlace("a99999999999999999999999999999999x", 1);
        duePlace("a18446744073709551617", 1);
        duePlace("b1(", 3);
        duePlace("b1()", 3);
        duePlace("b1(,a1)", 3);
        duePlace("b1(a", 4);
        duePlace("b1(a1", 5);
        duePlace("b1(a1,", 6);
        duePlace("b1(a1,)", 6);
        duePlace("b1(a1;a2)", 5);
        duePlace("b1(a1)(a2)", 6);
        duePlace("b1(a1))", 6);
        duePlace("b1(a1),", 6);
        duePlace("b1(a1)a2", 6);
        duePlace("b1(a2,b3(c4)", 12);
        duePlace("b1(a2,b3(c4)d5)", 12);
        duePlace("b1(a2,b99999999999(", 7);
        duePlace("b1(a00)", 5);
        duePlace("b1(m2)", 3);
        duePlace("b1(a2147483647,a2147483648)", 16);
    }

    private static void promise23ReadDeep() {
        NestedDeeds x = new NestedDeeds();
        x.way(3);
        int last = x.chain(300, 1, 0, 1, -1);
        last = x.chain(400, 1, 0, 1, last);
        due("23 700 deep", x.write(last), 700 * 4 - 2);
        due("23 it is read", x.read(), last + 700);
        due("23 and alike", x.alike(last, last + 700), 1);
        NestedDeeds y = new NestedDeeds();
        due("23 2000 open", Check.readText(y, "a0(".repeat(2000)), -10 - 6000);
        due("23 1500 deep", Check.readText(y, "a0(".repeat(1499) + "a0" + ")".repeat(1499)), 1499);
    }

    private static void promise23ReadFull() {
        NestedDeeds x = new NestedDeeds();
        x.chain(400, 0, 0, 1, -1);
        x.chain(400, 0, 0, 1, -1);
        x.chain(400, 0, 0, 1, -1);
        x.chain(297, 0, 0, 1, -1);
        due("23 4 more", Check.readText(x, "b1(a1,a2,a3)"), NestedDeeds.FULL);
        due("23 a fault ahead of FULL", Check.readText(x, "b1(a1,a2,a3"), -10 - 11);
        due("23 deeds", x.count(0), 1497);
        due("23 3 more", Check.readText(x, "b1(a1,a2)"), 1499);
        due("23 1 more", Check.readText(x, "a1"), NestedDeeds.FULL);
        due("23 part", x.part(1499, 0), 1497);
    }
}
