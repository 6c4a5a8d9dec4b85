import java.util.Map;

/** Checks of boundary cases: each names the sentence of the document that it is about. */
final class Edge {
    interface Making {
        void on(Archive x);
    }

    interface Call {
        long on(Archive x);
    }

    /** What the latest walk told: answer(), VISITED, CALLS. */
    record Told(int answer, int visited, int calls) {
    }

    private final Check check;

    Edge(String test) {
        check = new Check(test);
    }

    static Archive made(Making making) {
        Archive x = new Archive();
        making.on(x);
        return x;
    }

    static Making with(Making making, Call call) {
        return x -> {
            making.on(x);
            call.on(x);
        };
    }

    /** CALLS, as Terms say, of a walk whose greatest depth visited is told. */
    static int calls(int way, int meter, int deepest) {
        return way == 0 ? deepest : way == 3 ? Math.min(deepest, meter) : 0;
    }

    void finish() {
        check.finish();
    }

    void due(String says, long got, long want) {
        check.due(says, got, want);
    }

    void dueText(String says, String got, String want) {
        check.due(says, got, want);
    }

    /** The call is taken and answers so. */
    void taken(String says, Making making, Call call, long answer) {
        due(says, call.on(made(making)), answer);
    }

    /** The call answers so, and all is as if it had not been. */
    void refused(String says, Making making, Call call, long answer) {
        taken(says, making, call, answer);
        dueState(says, State.behind(making), State.behind(with(making, call)));
    }

    /** A walk refused with BAD: only answer() tells of it. */
    void badWalk(String says, Making making, Call call, long answer) {
        taken(says, making, call, answer);
        Map<String, Long> want = State.behind(making);
        want.put("answer()", (long) NestedDeeds.BAD);
        dueState(says, want, State.behind(with(making, call)));
    }

    /** A walk that changes nothing but what is told of the latest walk. */
    void walk(String says, Making making, Call call, long answer, Told told) {
        taken(says, making, call, answer);
        Map<String, Long> want = State.behind(making);
        want.put("answer()", (long) told.answer());
        want.put("count(3)", (long) told.visited());
        want.put("count(4)", (long) told.calls());
        dueState(says, want, State.behind(with(making, call)));
    }

    /** What is told of the latest walk, whatever else it changed. */
    void told(String says, Archive x, Told told) {
        due(says + ": answer()", x.answer(), told.answer());
        due(says + ": VISITED", x.count(3), told.visited());
        due(says + ": CALLS", x.count(4), told.calls());
    }

    private void dueState(String says, Map<String, Long> want, Map<String, Long> got) {
        due(says + ": how much can be asked", got.size(), want.size());
        for (Map.Entry<String, Long> asked : want.entrySet()) {
            Long answered = got.get(asked.getKey());
            // No call answers the least long, so a question that has no answer shows.
            due(says + ": then " + asked.getKey(), answered == null ? Long.MIN_VALUE : answered, asked.getValue());
        }
    }
}
