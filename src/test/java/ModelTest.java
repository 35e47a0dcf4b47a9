import java.util.HashSet;
import java.util.Set;

/**
 * The class and the {@link Model} answer the same calls alike, over as many calls as an object
 * is promised for; and the calls that are drawn do meet every answer that the document names.
 */
public final class ModelTest {
    private static final int RUNS = 2000;
    private static final int CALLS = 512;
    private static final int[] PERSONS = {1, 2, 5, 40};
    private static final int[] ITEMS = {2, 12, 25, 60};
    private static final int[] ROWS = {-1, 0, 1, 6, 30, 100, 101};

    private static final String[] NAMED_ANSWERS = {
        "person 0", "person 1", "block 0", "block 1", "reserve 0", "reserve 1",
        "card -1", "card 0", "card 1", "code -2", "code -1", "code 0", "code 1",
        "scan 0", "scan 1", "scan 2", "twice 0", "twice 1",
        "lend -8", "lend -7", "lend -6", "lend -5", "lend -4", "lend -3", "lend -2", "lend -1",
        "lend 1", "lend 10", "back -7", "back -1", "back 0", "back 1", "back 2",
        "end -1", "end 0", "end 10", "offline 0", "offline 1", "join -1", "join 0", "join 10",
        "clash -1", "clash 0", "clash 1", "clash 11", "locker -1", "locker 0", "locker 9",
        "open -5", "open -4", "open -1", "open 0", "open 59", "door 0", "door 1",
        "receipt -1", "receipt 0", "receipt 59", "screen 0", "screen 1", "screen 2", "screen 5",
        "screen 6", "screen 7", "screen 21", "screen 22", "screen 26", "screen 27",
        "item -2", "item -1", "item 0", "item 39", "rows 0", "rows 1", "rows 6"};

    private static final Due due = new Due();
    private static final Set<String> met = new HashSet<>();

    public static void main(String[] args) {
        for (int run = 0; run < RUNS; run++) {
            // Divided by the lengths before it, so that every mix of them comes.
            int persons = PERSONS[run / 2 % PERSONS.length];
            int items = ITEMS[run / 8 % ITEMS.length];
            int rows = ROWS[run / 32 % ROWS.length];
            run(rows, new AnyCalls(run, persons, items), run % 2 == 0);
        }
        for (String answer : NAMED_ANSWERS) {
            due.is(answer + " was met", met.contains(answer), true);
        }
        due.finish();
    }

    private static void run(int rows, AnyCalls calls, boolean fills) {
        SelfCheckSteps x = new SelfCheckSteps(rows);
        Model model = new Model(rows);
        StringBuilder past = new StringBuilder("new ").append(rows);
        for (int i = 0; i < CALLS; i++) {
            Step step = fills ? calls.nextThatFills(x.rows()) : calls.next(x.rows());
            past.append(", ").append(step);
            int got = step.on(x);
            int want = model.answer(step);
            met.add(step.name() + " " + want);
            if (got != want) {
                due.is(past.toString(), got, want);
                return;
            }
        }
        due.is("run", 0, 0);
    }
}
