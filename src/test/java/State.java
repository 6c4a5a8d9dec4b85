import java.util.LinkedHashMap;
import java.util.Map;

/** All that can be asked of an archive; one that has no calls left is made again as it was. */
final class State {
    private final Edge.Making making;
    private final Map<String, Long> told = new LinkedHashMap<>();
    private Archive asked;

    private State(Edge.Making making) {
        this.making = making;
        this.asked = Edge.made(making);
    }

    static Map<String, Long> behind(Edge.Making making) {
        State state = new State(making);
        state.askAll();
        return state.told;
    }

    private void askAll() {
        ask("answer()", Archive::answer);
        for (int what = 0; what <= 4; what++) {
            int number = what;
            ask("count(" + what + ")", x -> x.count(number));
        }
        for (int deed = 0; deed < told.get("count(0)"); deed++) {
            askOf(deed);
        }
        for (int place = 0; place <= told.get("count(2)"); place++) {
            int i = place;
            ask("byteAt(" + i + ")", x -> x.byteAt(i));
        }
        // These two change what they ask for, so they come last.
        ask("way", x -> x.way(0));
        ask("meter", x -> x.meter(1));
    }

    private void askOf(int deed) {
        for (int what = 0; what <= 2; what++) {
            int number = what;
            ask("of(" + deed + ", " + what + ")", x -> x.of(deed, number));
        }
        long parts = told.get("of(" + deed + ", 1)");
        for (int place = 0; place < parts; place++) {
            int i = place;
            ask("part(" + deed + ", " + i + ")", x -> x.part(deed, i));
        }
    }

    private void ask(String call, Edge.Call probe) {
        if (asked.callsLeft() == 0) {
            asked = Edge.made(making);
        }
        told.put(call, probe.on(asked));
    }
}
