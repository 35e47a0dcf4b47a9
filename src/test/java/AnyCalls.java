import java.util.Set;

/** Calls with all kinds of arguments; the same seed makes the same calls. */
final class AnyCalls {
    private static final int[] STRANGE = {Integer.MIN_VALUE, -2, -1, 10, 39, 40, 59, 60, 100, 256, Integer.MAX_VALUE};

    private static final Set<String> TAKE_AWAY = Set.of(
        "person", "block", "twice", "back", "end", "offline", "join", "open");

    private final int persons;
    private final int items;
    private long seed;

    /** Few persons and items bring them together more often than many. */
    AnyCalls(long seed, int persons, int items) {
        this.seed = seed;
        this.persons = persons;
        this.items = items;
    }

    /** The answer of the next call; a boolean counts 1 or 0. */
    int call(SelfCheckSteps x) {
        return next(x.rows()).on(x);
    }

    /** The next call on an object that keeps so many rows, which bound what a join asks for. */
    Step next(int rows) {
        int kind = number(28);
        return kind < 12 ? cardsAndScans(kind) : theRest(kind, rows);
    }

    /** Sessions last and items pile up, as what takes away comes seldom. */
    Step nextThatFills(int rows) {
        Step step = next(rows);
        return TAKE_AWAY.contains(step.name()) && number(10) != 0 ? filling() : step;
    }

    int number(int bound) {
        seed = seed * 6364136223846793005L + 1442695040888963407L;
        return (int) ((seed >>> 33) % bound);
    }

    private Step cardsAndScans(int kind) {
        switch (kind) {
            case 0: return new Step("person", argument(persons), number(2), argument(3));
            case 1: return new Step("block", argument(persons), number(4) == 0 ? 1 : 0, 0);
            case 2: return new Step("reserve", argument(items), number(2) == 0 ? -1 : argument(persons), 0);
            case 3: case 4: case 5: return new Step("card", argument(persons), 0, 0);
            case 6: case 7: case 8: return new Step("code", number(2), 0, 0);
            default: return new Step("scan", argument(items), 0, 0);
        }
    }

    private Step theRest(int kind, int rows) {
        switch (kind) {
            case 12: return new Step("twice", 0, 0, 0);
            case 13: case 14: case 15: return new Step("lend", 0, 0, 0);
            case 16: return new Step("back", argument(items), 0, 0);
            case 17: return new Step("end", number(2), 0, 0);
            case 18: return new Step("offline", number(2), 0, 0);
            case 19: return new Step("join", argument(1 + rows), 0, 0);
            case 20: return new Step("clash", argument(5), argument(4), 0);
            case 21: return new Step("locker", argument(items), 0, 0);
            case 22: return new Step("open", argument(10), number(2), 0);
            case 23: return new Step("door", argument(items), 0, 0);
            case 24: return new Step("receipt", argument(12), 0, 0);
            case 25: return new Step("screen", 0, 0, 0);
            case 26: return new Step("rows", 0, 0, 0);
            default: return new Step("item", argument(items), argument(4), 0);
        }
    }

    private Step filling() {
        switch (number(6)) {
            case 0: return new Step("reserve", argument(items), argument(persons), 0);
            case 1: return new Step("locker", argument(items), 0, 0);
            case 2: case 3: return new Step("lend", 0, 0, 0);
            default: return new Step("scan", argument(items), 0, 0);
        }
    }

    private int argument(int bound) {
        return number(20) == 0 ? STRANGE[number(STRANGE.length)] : number(bound);
    }
}
