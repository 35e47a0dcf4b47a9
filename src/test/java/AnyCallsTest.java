/**
 * Long runs of calls with all kinds of arguments: nothing throws, also beyond the 512th call,
 * and what the object tells of itself fits together.
 */
public final class AnyCallsTest {
    private static final int RUNS = 300;
    private static final int CALLS = 3000;

    private static final Due due = new Due();

    public static void main(String[] args) {
        AnyCalls numbers = new AnyCalls(1, 1, 1);
        for (int run = 0; run < RUNS; run++) {
            int rows = numbers.number(120) - 10;
            SelfCheckSteps x = new SelfCheckSteps(rows);
            AnyCalls calls = new AnyCalls(run, 1 + numbers.number(40), 1 + numbers.number(60));
            for (int i = 0; i < CALLS; i++) {
                calls.call(x);
                if (i % 50 == 0) {
                    fits(x, Math.max(0, Math.min(100, rows)));
                }
            }
        }
        manyLendsInASession();
        due.finish();
    }

    private static void fits(SelfCheckSteps x, int mostRows) {
        due.is("rows() in its bounds", x.rows() >= 0 && x.rows() <= mostRows, true);
        int[] held = new int[40];
        boolean[] used = new boolean[10];
        for (int i = 0; i < 60; i++) {
            int holder = x.item(i, 0);
            int locker = x.item(i, 2);
            if (holder != -1) {
                held[holder]++;
                due.is("an item that is out is in no locker", locker, -1);
            }
            if (locker != -1) {
                due.is("a locker has one item", used[locker], false);
                used[locker] = true;
            }
        }
        for (int i = 0; i < 40; i++) {
            due.is("a person has at most ten", held[i] <= 10, true);
        }
        int shown = x.screen() % 10;
        due.is("screen()", x.screen() >= 0 && x.screen() < 30 && shown != 3 && shown != 4 && shown < 8, true);
    }

    private static void manyLendsInASession() {
        SelfCheckSteps x = new SelfCheckSteps(0);
        Due.openSession(x, 1);
        for (int i = 0; i < 2000; i++) {
            Due.scanAndLend(x, i % 60);
            x.back(i % 60);
            x.receipt(i);
        }
        x.end(true);
    }
}
