/** Calls with all kinds of arguments; the same seed makes the same calls. */
final class AnyCalls {
    private static final int[] STRANGE = {Integer.MIN_VALUE, -2, -1, 10, 39, 40, 59, 60, 100, 256, Integer.MAX_VALUE};

    private final int persons;
    private final int items;
    private long seed;

    /** Few persons and items bring them together more often than many. */
    AnyCalls(long seed, int persons, int items) {
        this.seed = seed;
        this.persons = persons;
        this.items = items;
    }

    /** The answer of the next call; a boolean counts 1 or 0. */
    int call(SelfCheckSteps x) {
        int kind = number(26);
        return kind < 12 ? callCardsAndScans(x, kind) : callTheRest(x, kind);
    }

    int number(int bound) {
        seed = seed * 6364136223846793005L + 1442695040888963407L;
        return (int) ((seed >>> 33) % bound);
    }

    private int callCardsAndScans(SelfCheckSteps x, int kind) {
        switch (kind) {
            case 0: return x.person(argument(persons), number(2), argument(3));
            case 1: return x.block(argument(persons), number(4) == 0) ? 1 : 0;
            case 2: return x.reserve(argument(items), number(2) == 0 ? -1 : argument(persons));
            case 3: case 4: case 5: return x.card(argument(persons));
            case 6: case 7: case 8: return x.code(number(2));
            default: return x.scan(argument(items));
        }
    }

    private int callTheRest(SelfCheckSteps x, int kind) {
        switch (kind) {
            case 12: return x.twice();
            case 13: case 14: case 15: return x.lend();
            case 16: return x.back(argument(items));
            case 17: return x.end(number(2) == 0);
            case 18: return x.offline(number(2) == 0) ? 1 : 0;
            case 19: return x.join(argument(1 + Math.max(0, x.rows())));
            case 20: return x.clash(argument(5), argument(4));
            case 21: return x.locker(argument(items));
            case 22: return x.open(argument(10), number(2));
            case 23: return x.door(argument(items)) ? 1 : 0;
            case 24: return x.receipt(argument(12));
            default: return x.item(argument(items), argument(4));
        }
    }

    private int argument(int bound) {
        return number(20) == 0 ? STRANGE[number(STRANGE.length)] : number(bound);
    }
}
