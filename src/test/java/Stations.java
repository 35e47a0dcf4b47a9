import java.util.List;

/** Stations with a busy past in each state, online and offline. */
enum Stations {
    IDLE, ASKS, OPEN, DONE, SCANNED;

    private static final int ROWS = 9;

    static List<Stations> thatAreOpen() {
        return List.of(OPEN, DONE, SCANNED);
    }

    static List<Stations> thatAreNotOpen() {
        return List.of(IDLE, ASKS);
    }

    static List<Stations> thatAreNotIdle() {
        return List.of(ASKS, OPEN, DONE, SCANNED);
    }

    static List<Stations> thatDoNotAsk() {
        return List.of(IDLE, OPEN, DONE, SCANNED);
    }

    static List<Stations> all() {
        return List.of(values());
    }

    Twins.Made online() {
        return Twins.station(ROWS, x -> {
            Pasts.busy(x);
            reach(x);
        });
    }

    Twins.Made offline() {
        return Twins.station(ROWS, x -> {
            Pasts.busyOffline(x);
            reach(x);
        });
    }

    /** The call has this answer and changes nothing in each of these states, online and offline. */
    static void unchanged(Due due, List<Stations> states, String name, Twins.Call call, int answer) {
        for (Stations state : states) {
            Twins.unchanged(due, name + ", online, " + state, state.online(), call, answer);
            Twins.unchanged(due, name + ", offline, " + state, state.offline(), call, answer);
        }
    }

    private void reach(SelfCheckSteps x) {
        switch (this) {
            case ASKS: Pasts.asks(x); break;
            case OPEN: Pasts.open(x); break;
            case DONE: Pasts.done(x); break;
            case SCANNED: Pasts.scanned(x); break;
            default: break;
        }
    }
}
