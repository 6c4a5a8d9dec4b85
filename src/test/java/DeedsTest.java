/** Promises 1 to 8: a new object, deed, enclose, chain, way, meter, of, part. */
public final class DeedsTest {
    private static final Check CHECK = new Check("DeedsTest");

    public static void main(String[] args) {
        promise1NewObject();
        promise2Deed();
        promise3Enclose();
        promise3EncloseFull();
        promise4Chain();
        promise4ChainBad();
        promise4ChainFull();
        promise5Way();
        promise6Meter();
        promise7Of();
        promise8Part();
        CHECK.finish();
    }

    private static void due(String call, long got, long want) {
        CHECK.due(call, got, want);
    }

    private static void promise1NewObject() {
        NestedDeeds x = new NestedDeeds();
        for (int what = 0; what <= 4; what++) {
            due("1 count(" + what + ")", x.count(what), 0);
        }
        due("1 answer()", x.answer(), 0);
        due("1 byteAt(0)", x.byteAt(0), NestedDeeds.NONE);
        due("1 way(0)", x.way(0), 0);
        due("1 meter(1)", x.meter(1), 100);
    }

    private static void promise2Deed() {
        NestedDeeds x = new NestedDeeds();
        for (int kind = 0; kind <= 11; kind++) {
            due("2 deed by kind", x.deed(kind, -kind), kind);
        }
        due("2 deed(-1, 0)", x.deed(-1, 0), NestedDeeds.BAD);
        due("2 deed(12, 0)", x.deed(12, 0), NestedDeeds.BAD);
        due("2 deed(least, 0)", x.deed(Integer.MIN_VALUE, 0), NestedDeeds.BAD);
        due("2 deed(11, least)", x.deed(11, Integer.MIN_VALUE), 12);
        due("2 parts of a new one", x.of(12, 1), 0);
        for (int i = 0; i < 3; i++) {
            x.chain(400, 0, 0, 1, -1);
        }
        due("2 chain up to 1499", x.chain(286, 0, 0, 1, -1), 1498);
        due("2 the 1500th", x.deed(0, 0), 1499);
        due("2 the 1501st", x.deed(0, 0), NestedDeeds.FULL);
        due("2 BAD ahead of FULL", x.deed(12, 0), NestedDeeds.BAD);
        due("2 deeds", x.count(0), 1500);
        due("3 deeds are full, parts are not", x.enclose(1499, 0), 1);
    }

    private static void promise3Enclose() {
        NestedDeeds x = new NestedDeeds();
        for (int i = 0; i < 4; i++) {
            x.deed(1, i);
        }
        due("3 enclose(3, 2)", x.enclose(3, 2), 1);
        due("3 enclose(1, 0)", x.enclose(1, 0), 1);
        due("3 enclose(2, 0)", x.enclose(2, 0), 1);
        due("3 enclose(1, 0) again", x.enclose(1, 0), 2);
        due("3 enclose(3, 0)", x.enclose(3, 0), 2);
        due("3 enclose(2, 1)", x.enclose(2, 1), 2);
        due("3 part(1, 0)", x.part(1, 0), 0);
        due("3 part(1, 1)", x.part(1, 1), 0);
        due("3 part(2, 0)", x.part(2, 0), 0);
        due("3 part(2, 1)", x.part(2, 1), 1);
        due("3 part(3, 0)", x.part(3, 0), 2);
        due("3 part(3, 1)", x.part(3, 1), 0);
        due("3 all parts", x.count(1), 6);
        due("3 itself", x.enclose(2, 2), NestedDeeds.ELDER);
        due("3 a younger one", x.enclose(2, 3), NestedDeeds.ELDER);
        due("3 none such", x.enclose(4, 0), NestedDeeds.BAD);
        due("3 no such part", x.enclose(0, 4), NestedDeeds.BAD);
        due("3 below 0", x.enclose(-1, 0), NestedDeeds.BAD);
        due("3 part below 0", x.enclose(3, -1), NestedDeeds.BAD);
        due("3 refused ones change nothing", x.count(1), 6);
    }

    private static void promise3EncloseFull() {
        NestedDeeds x = new NestedDeeds();
        x.chain(400, 1, 0, 4, -1);
        x.chain(400, 1, 0, 4, -1);
        x.chain(200, 1, 0, 4, -1);
        due("3 parts", x.count(1), 1596 + 1596 + 796);
        for (int i = 1; i <= 12; i++) {
            due("3 parts up to 4000", x.enclose(999, 0), 4 + i);
        }
        due("3 the 4001st", x.enclose(999, 0), NestedDeeds.FULL);
        due("3 ELDER ahead of FULL", x.enclose(5, 5), NestedDeeds.ELDER);
        due("3 BAD ahead of FULL", x.enclose(5, 1000), NestedDeeds.BAD);
        due("3 all parts", x.count(1), 4000);
        due("2 parts are full, deeds are not", x.deed(0, 0), 1000);
        due("3 chain without parts", x.chain(1, 0, 0, 4, -1), 1001);
        due("3 chain with a part", x.chain(1, 0, 0, 1, 0), NestedDeeds.FULL);
        due("3 copy without parts", x.copy(0), 1002);
        due("3 copy with parts", x.copy(1), NestedDeeds.FULL);
        due("3 read without parts", Check.readText(x, "a1"), 1003);
        due("3 read with parts", Check.readText(x, "b1(a1)"), NestedDeeds.FULL);
        due("3 deeds", x.count(0), 1004);
    }

    private static void promise4Chain() {
        NestedDeeds x = new NestedDeeds();
        due("4 chain(3, 2, 7, 2, -1)", x.chain(3, 2, 7, 2, -1), 2);
        due("4 the first has none", x.of(0, 1), 0);
        due("4 the next has two", x.of(1, 1), 2);
        due("4 part(1, 1)", x.part(1, 1), 0);
        due("4 part(2, 0)", x.part(2, 0), 1);
        due("4 kind", x.of(2, 0), 2);
        due("4 number", x.of(0, 2), 7);
        due("4 chain(2, 1, -1, 4, 0)", x.chain(2, 1, -1, 4, 0), 4);
        due("4 of(3, 1)", x.of(3, 1), 4);
        due("4 part(3, 3)", x.part(3, 3), 0);
        due("4 part(4, 3)", x.part(4, 3), 3);
        due("4 all parts", x.count(1), 12);
        due("4 chain(400, ..)", x.chain(400, 0, 0, 1, -1), 404);
        due("4 parts of 400", x.count(1), 12 + 399);
    }

    private static void promise4ChainBad() {
        NestedDeeds x = new NestedDeeds();
        x.deed(0, 0);
        due("4 n 0", x.chain(0, 0, 0, 1, -1), NestedDeeds.BAD);
        due("4 n 401", x.chain(401, 0, 0, 1, -1), NestedDeeds.BAD);
        due("4 n least", x.chain(Integer.MIN_VALUE, 0, 0, 1, -1), NestedDeeds.BAD);
        due("4 n greatest", x.chain(Integer.MAX_VALUE, 0, 0, 4, 0), NestedDeeds.BAD);
        due("4 kind -1", x.chain(1, -1, 0, 1, -1), NestedDeeds.BAD);
        due("4 kind 12", x.chain(1, 12, 0, 1, -1), NestedDeeds.BAD);
        due("4 times 0", x.chain(1, 0, 0, 0, -1), NestedDeeds.BAD);
        due("4 times 5", x.chain(1, 0, 0, 5, -1), NestedDeeds.BAD);
        due("4 first -2", x.chain(1, 0, 0, 1, -2), NestedDeeds.BAD);
        due("4 first 1", x.chain(1, 0, 0, 1, 1), NestedDeeds.BAD);
        due("4 deeds", x.count(0), 1);
    }

    private static void promise4ChainFull() {
        NestedDeeds x = new NestedDeeds();
        x.chain(400, 1, 0, 1, -1);
        x.chain(400, 1, 0, 1, -1);
        x.chain(400, 1, 0, 1, -1);
        due("4 301 more", x.chain(301, 1, 0, 1, -1), NestedDeeds.FULL);
        due("4 deeds", x.count(0), 1200);
        due("4 300 more", x.chain(300, 1, 0, 1, -1), 1499);
        due("4 BAD ahead of FULL", x.chain(1, 12, 0, 1, -1), NestedDeeds.BAD);
        NestedDeeds y = new NestedDeeds();
        y.chain(400, 1, 0, 4, -1);
        y.chain(400, 1, 0, 4, -1);
        due("4 809 parts more", y.chain(204, 1, 0, 4, -1), NestedDeeds.FULL);
        due("4 808 by a first", y.chain(203, 1, 0, 4, 0), NestedDeeds.FULL);
        due("4 808 parts more", y.chain(203, 1, 0, 4, -1), 1002);
        due("4 parts", y.count(1), 4000);
    }

    private static void promise5Way() {
        NestedDeeds x = new NestedDeeds();
        due("5 way(3)", x.way(3), 0);
        due("5 way(2)", x.way(2), 3);
        due("5 way(4)", x.way(4), NestedDeeds.BAD);
        due("5 way(-1)", x.way(-1), NestedDeeds.BAD);
        due("5 way(1)", x.way(1), 2);
        due("5 way(0)", x.way(0), 1);
        due("5 it is no walk", x.answer(), 0);
    }

    private static void promise6Meter() {
        NestedDeeds x = new NestedDeeds();
        due("6 meter(300)", x.meter(300), 100);
        due("6 meter(301)", x.meter(301), NestedDeeds.BAD);
        due("6 meter(0)", x.meter(0), NestedDeeds.BAD);
        due("6 meter(1)", x.meter(1), 300);
        due("6 meter(2)", x.meter(2), 1);
        x.chain(3, 1, 1, 1, -1);
        due("6 size(1)", x.size(1), 2);
        due("6 size(2)", x.size(2), NestedDeeds.DEEP);
    }

    private static void promise7Of() {
        NestedDeeds x = new NestedDeeds();
        x.deed(0, 5);
        x.deed(11, Integer.MAX_VALUE);
        x.enclose(1, 0);
        due("7 kind", x.of(1, 0), 11);
        due("7 parts", x.of(1, 1), 1);
        due("7 number", x.of(1, 2), Integer.MAX_VALUE);
        due("7 what 3", x.of(1, 3), Integer.MIN_VALUE);
        due("7 what -1", x.of(1, -1), Integer.MIN_VALUE);
        due("7 deed 2", x.of(2, 0), Integer.MIN_VALUE);
        due("7 deed -1", x.of(-1, 0), Integer.MIN_VALUE);
        due("7 it is no walk", x.answer(), 0);
    }

    private static void promise8Part() {
        NestedDeeds x = new NestedDeeds();
        x.deed(0, 5);
        x.deed(1, 6);
        x.deed(1, 7);
        x.enclose(2, 1);
        x.enclose(2, 0);
        due("8 part(2, 0)", x.part(2, 0), 1);
        due("8 part(2, 1)", x.part(2, 1), 0);
        due("8 part(2, 2)", x.part(2, 2), NestedDeeds.BAD);
        due("8 part(2, -1)", x.part(2, -1), NestedDeeds.BAD);
        due("8 part(2, greatest)", x.part(2, Integer.MAX_VALUE), NestedDeeds.BAD);
        due("8 part(0, 0)", x.part(0, 0), NestedDeeds.BAD);
        due("8 part(3, 0)", x.part(3, 0), NestedDeeds.BAD);
        due("8 part(-1, 0)", x.part(-1, 0), NestedDeeds.BAD);
        due("8 it is no walk", x.answer(), 0);
    }
}
