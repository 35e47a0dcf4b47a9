/**
 * Long runs of calls with all kinds of arguments: nothing throws, also beyond the 512th call,
 * and what the object tells of itself fits together.
 */
public final class AnyCallsTest {
    private static final int RUNS = 300;
    private static final int CALLS = 3000;
    private static final int[] STRANGE = {Integer.MIN_VALUE, -2, -1, 10, 39, 40, 59, 60, 100, 256, Integer.MAX_VALUE};

    private static final Due due = new Due();
    private static long seed = 1;

    public static void main(String[] args) {
        for (int run = 0; run < RUNS; run++) {
            int rows = number(120) - 10;
            SelfCheckSteps x = new SelfCheckSteps(rows);
            // Few persons and items bring them together more often than many.
            int persons = 1 + number(40);
            int items = 1 + number(60);
            for (int i = 0; i < CALLS; i++) {
                callOne(x, persons, items);
                if (i % 50 == 0) {
                    fits(x, Math.max(0, Math.min(100, rows)));
                }
            }
        }
        manyLendsInASession();
        due.finish();
    }

    private static void callOne(SelfCheckSteps x, int persons, int items) {
        int person = argument(persons);
        int item = argument(items);
        switch (number(26)) {
            case 0: x.person(person, number(2), argument(3)); break;
            case 1: x.block(person, number(4) == 0); break;
            case 2: x.reserve(item, number(2) == 0 ? -1 : person); break;
            case 3: case 4: case 5: x.card(person); break;
            case 6: case 7: case 8: x.code(number(2)); break;
            case 9: case 10: case 11: x.scan(item); break;
            case 12: x.twice(); break;
            case 13: case 14: case 15: x.lend(); break;
            case 16: x.back(item); break;
            case 17: x.end(number(2) == 0); break;
            case 18: x.offline(number(2) == 0); break;
            case 19: x.join(argument(1 + Math.max(0, x.rows()))); break;
            case 20: x.clash(argument(5), argument(4)); break;
            case 21: x.locker(item); break;
            case 22: x.open(argument(10), number(2)); break;
            case 23: x.door(item); break;
            case 24: x.receipt(argument(12)); break;
            default: x.item(item, argument(4)); break;
        }
    }

    private static void fits(SelfCheckSteps x, int mostRows) {
        due.is("rows() in its bounds", x.rows() >= 0 && x.rows() <= mostRows, true);
        int[] held = new int[40];
        boolean[] used = new boolean[10];
        for (int i = 0; i < 60; i++) {
            int holder = x.item(i, 0);
            int locker = x.item(i, 2);
            if (holder != -1) {
                held[holder]++;
                due.is("an item that is out is in no locker", locker, -1);
            }
            if (locker != -1) {
                due.is("a locker has one item", used[locker], false);
                used[locker] = true;
            }
        }
        for (int i = 0; i < 40; i++) {
            due.is("a person has at most ten", held[i] <= 10, true);
        }
        int shown = x.screen() % 10;
        due.is("screen()", x.screen() >= 0 && x.screen() < 30 && shown != 3 && shown != 4 && shown < 8, true);
    }

    private static void manyLendsInASession() {
        SelfCheckSteps x = new SelfCheckSteps(0);
        Due.openSession(x, 1);
        for (int i = 0; i < 2000; i++) {
            Due.scanAndLend(x, i % 60);
            x.back(i % 60);
            x.receipt(i);
        }
        x.end(true);
    }

    private static int argument(int bound) {
        return number(20) == 0 ? STRANGE[number(STRANGE.length)] : number(bound);
    }

    // A fixed row of numbers: the same runs each time.
    private static int number(int bound) {
        seed = seed * 6364136223846793005L + 1442695040888963407L;
        return (int) ((seed >>> 33) % bound);
    }
}
