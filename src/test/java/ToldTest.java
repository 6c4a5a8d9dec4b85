/** Promises 24 and 25: answer, count. */
public final class ToldTest {
    private static final Check CHECK = new Check("ToldTest");

    public static void main(String[] args) {
        constants();
        promise24Answer();
        promise25Count();
        promise25Calls();
        CHECK.finish();
    }

    private static void due(String call, long got, long want) {
        CHECK.due(call, got, want);
    }

    private static void constants() {
        due("NONE", NestedDeeds.NONE, -1);
        due("BAD", NestedDeeds.BAD, -2);
        due("ELDER", NestedDeeds.ELDER, -3);
        due("FULL", NestedDeeds.FULL, -4);
        due("SPENT", NestedDeeds.SPENT, -5);
        due("DEEP", NestedDeeds.DEEP, -6);
    }

    private static void promise24Answer() {
        NestedDeeds x = new NestedDeeds();
        due("24 none yet", x.answer(), 0);
        x.deed(12, 0);
        x.enclose(0, 0);
        x.part(0, 0);
        x.read();
        x.feed(0, 0);
        due("24 those are no walks", x.answer(), 0);
        due("24 BAD", x.depth(0), NestedDeeds.BAD);
        due("24 BAD", x.answer(), NestedDeeds.BAD);
        int last = x.chain(14, 1, 0, 2, -1);
        due("24 still BAD", x.answer(), NestedDeeds.BAD);
        x.size(last);
        due("24 to its end", x.answer(), 0);
        x.size(x.chain(1, 1, 0, 2, last));
        due("24 SPENT", x.answer(), NestedDeeds.SPENT);
        due("24 FULL", x.copy(last), NestedDeeds.FULL);
        due("24 FULL is 0", x.answer(), 0);
        x.meter(3);
        x.find(last, 0, 0);
        due("24 DEEP", x.answer(), NestedDeeds.DEEP);
        x.alike(0, 99);
        due("24 BAD by alike", x.answer(), NestedDeeds.BAD);
        x.worth(0);
        x.widest(0, 2);
        due("24 BAD by widest", x.answer(), NestedDeeds.BAD);
        x.worth(0);
        x.find(0, 12, 0);
        due("24 BAD by find", x.answer(), NestedDeeds.BAD);
        x.worth(0);
        due("24 0 again", x.answer(), 0);
    }

    private static void promise25Count() {
        NestedDeeds x = new NestedDeeds();
        x.chain(5, 1, 0, 3, -1);
        x.feed(0, 7);
        due("25 deeds", x.count(0), 5);
        due("25 parts", x.count(1), 12);
        due("25 bytes", x.count(2), 7);
        due("25 no walk yet", x.count(3), 0);
        due("25 no walk yet", x.count(4), 0);
        x.size(5);
        due("25 a BAD one is none", x.count(3), 0);
        x.size(2);
        due("25 visited", x.count(3), 13);
        due("25 calls", x.count(4), 3);
        x.size(5);
        x.worth(-1);
        due("25 visited, not of a BAD one", x.count(3), 13);
        due("25 calls, not of a BAD one", x.count(4), 3);
        due("25 what 5", x.count(5), NestedDeeds.BAD);
        due("25 what -1", x.count(-1), NestedDeeds.BAD);
        x.thin(2, 0);
        due("25 visited by thin", x.count(3), 13);
        due("25 deeds", x.count(0), 18);
        due("25 parts", x.count(1), 24);
    }

    private static void promise25Calls() {
        NestedDeeds x = new NestedDeeds();
        x.chain(20, 1, 0, 1, -1);
        x.size(19);
        due("25 way 0", x.count(4), 20);
        x.meter(7);
        x.way(3);
        due("25 as they were then", x.count(4), 20);
        x.size(19);
        due("25 way 3", x.count(4), 7);
        x.size(4);
        due("25 way 3, less deep", x.count(4), 5);
        x.way(1);
        x.size(19);
        due("25 way 1", x.count(4), 0);
        x.way(0);
        x.size(19);
        due("25 way 0, DEEP", x.count(4), 7);
        due("25 way 0, visited", x.count(3), 7);
        x.way(2);
        x.size(19);
        due("25 way 2", x.count(4), 0);
    }
}
