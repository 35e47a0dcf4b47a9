/** What is too small or too large: such a call has its answer and changes nothing, in any state. */
public final class NumbersTest {
    private static final int MIN = Integer.MIN_VALUE;
    private static final int MAX = Integer.MAX_VALUE;
    private static final int[] NO_PERSONS = {MIN, -2, -1, 40, 41, MAX};
    private static final int[] NO_ITEMS = {MIN, -2, -1, 60, 61, MAX};
    private static final int[] NO_LOCKERS = {MIN, -1, 10, 11, MAX};
    private static final int[] NO_LANGUAGES = {MIN, -1, 3, 4, MAX};
    private static final int[] NO_PLACES = {MIN, -1, 100, 256, MAX};
    private static final int[] NO_KINDS = {MIN, -1, 3, 4, MAX};

    private static final Due due = new Due();

    public static void main(String[] args) {
        rowsOfANewObject();
        persons();
        personsOfReservations();
        languages();
        items();
        firstAndLastOfAll();
        lockers();
        rowsOfAJoin();
        placesAndKindsOfClashes();
        placesOfReceipts();
        kindsOfItems();
        codes();
        due.finish();
    }

    private static void rowsOfANewObject() {
        int[] told = {MIN, -100, -1, 0, 100, 101, 200, MAX};
        for (int rows : told) {
            Twins.alike(due, "1: new with " + rows, () -> new SelfCheckSteps(rows),
                () -> new SelfCheckSteps(rows < 100 ? 0 : 100));
        }
        Twins.differ(due, "1: new with 1 and 0", () -> new SelfCheckSteps(1), () -> new SelfCheckSteps(0));
        Twins.differ(due, "1: new with 99 and 100", () -> new SelfCheckSteps(99), () -> new SelfCheckSteps(100));
    }

    private static void persons() {
        for (int no : NO_PERSONS) {
            refuse("2: person(" + no + ", 1, 1)", x -> x.person(no, 1, 1), 0);
            refuse("3: block(" + no + ", true)", x -> x.block(no, true) ? 1 : 0, 0);
            refuse("3: block(" + no + ", false)", x -> x.block(no, false) ? 1 : 0, 0);
            refuse("5: card(" + no + ")", x -> x.card(no), 0);
        }
    }

    private static void personsOfReservations() {
        for (int no : NO_PERSONS) {
            if (no != -1) {
                refuse("4: reserve(20, " + no + ")", x -> x.reserve(20, no), 0);
            }
        }
        SelfCheckSteps x = new SelfCheckSteps(0);
        x.reserve(20, 6);
        due.is("4: reserve(20, -1)", x.reserve(20, -1), 1);
        due.is("4: item(20, 1), for nobody", x.item(20, 1), -1);
        due.is("4: reserve(20, -1) again", x.reserve(20, -1), 1);
    }

    private static void languages() {
        for (int no : NO_LANGUAGES) {
            refuse("2: person(6, 1, " + no + ")", x -> x.person(6, 1, no), 0);
            refuse("2: person(40, 1, " + no + ")", x -> x.person(40, 1, no), 0);
        }
        for (int language = 0; language < 3; language++) {
            SelfCheckSteps x = new SelfCheckSteps(0);
            due.is("2: person(6, 0, " + language + ")", x.person(6, 0, language), 1);
            x.card(6);
            due.is("19: screen()", x.screen(), 10 * language + 1);
        }
    }

    private static void items() {
        for (int no : NO_ITEMS) {
            refuse("4: reserve(" + no + ", 1)", x -> x.reserve(no, 1), 0);
            refuse("4: reserve(" + no + ", -1)", x -> x.reserve(no, -1), 0);
            refuse("7: scan(" + no + ")", x -> x.scan(no), 0);
            refuse("10: back(" + no + ")", x -> x.back(no), -1);
            refuse("15: locker(" + no + ")", x -> x.locker(no), -1);
            refuse("17: door(" + no + ")", x -> x.door(no) ? 1 : 0, 0);
            for (int what = 0; what < 3; what++) {
                int kind = what;
                refuse("20: item(" + no + ", " + kind + ")", x -> x.item(no, kind), -2);
            }
        }
    }

    /** The first and the last person, item and locker are there for every call. */
    private static void firstAndLastOfAll() {
        int[] persons = {0, 39};
        int[] items = {0, 59};
        for (int i = 0; i < 2; i++) {
            SelfCheckSteps x = new SelfCheckSteps(9);
            int person = persons[i];
            int item = items[i];
            due.is("2: person(" + person + ", 8, 1)", x.person(person, 8, 1), 1);
            due.is("4: reserve(" + item + ", " + person + ")", x.reserve(item, person), 1);
            due.is("15: locker(" + item + ")", x.locker(item), 0);
            due.is("16: open(0, 8)", x.open(0, 8), item);
            due.is("20: item(" + item + ", 0)", x.item(item, 0), person);
            due.is("17: door(" + item + ")", x.door(item), false);
            due.is("10: back(" + item + ")", x.back(item), 0);
            due.is("5: card(" + person + ")", x.card(person), 1);
            due.is("6: code(8)", x.code(8), 1);
            due.is("7: scan(" + item + ")", x.scan(item), 1);
            due.is("9: lend()", x.lend(), 1);
            due.is("18: receipt(0)", x.receipt(0), item);
            due.is("11: end(true)", x.end(true), 0);
            due.is("3: block(" + person + ", true)", x.block(person, true), false);
            due.is("5: card(" + person + ")", x.card(person), -1);
        }
    }

    private static void lockers() {
        for (int no : NO_LOCKERS) {
            refuse("16: open(" + no + ", 0)", x -> x.open(no, 0), -1);
        }
        SelfCheckSteps x = new SelfCheckSteps(0);
        for (int i = 0; i < 10; i++) {
            x.reserve(i, i);
            x.locker(i);
        }
        due.is("16: open(9, 0), the last one", x.open(9, 0), 9);
        due.is("16: open(0, 0), the first one", x.open(0, 0), 0);
    }

    private static void rowsOfAJoin() {
        int[] wrong = {MIN, -2, -1, 3, 4, 100, MAX};
        for (int rows : wrong) {
            // Two rows are kept in the busy past.
            for (Stations state : Stations.all()) {
                Twins.unchanged(due, "13: join(" + rows + "), " + state, state.online(), x -> x.join(rows), -1);
            }
        }
        due.is("13: join(0), the least", Stations.IDLE.online().make().join(0), 0);
        due.is("13: join(2), all", Stations.IDLE.online().make().join(2), 0);
    }

    private static void placesAndKindsOfClashes() {
        for (int no : NO_PLACES) {
            for (int what = 0; what < 3; what++) {
                int kind = what;
                refuse("14: clash(" + no + ", " + kind + ")", x -> x.clash(no, kind), -1);
            }
        }
        for (int no : NO_KINDS) {
            refuse("14: clash(0, " + no + ")", x -> x.clash(0, no), -1);
            refuse("14: clash(1, " + no + ")", x -> x.clash(1, no), -1);
        }
        // The busy past has one clash, of a return.
        SelfCheckSteps x = Stations.IDLE.online().make();
        due.is("14: clash(0, 0)", x.clash(0, 0), 26);
        due.is("14: clash(0, 2)", x.clash(0, 2), 1);
        due.is("14: clash(1, 0), behind the last", x.clash(1, 0), -1);
        due.is("14: clash(1, 2), behind the last", x.clash(1, 2), -1);
    }

    private static void placesOfReceipts() {
        for (int no : NO_PLACES) {
            refuse("18: receipt(" + no + ")", x -> x.receipt(no), -1);
        }
        SelfCheckSteps x = Stations.DONE.online().make();
        due.is("18: receipt(0)", x.receipt(0), 10);
        due.is("18: receipt(1), behind the last", x.receipt(1), -1);
    }

    private static void kindsOfItems() {
        for (int no : NO_KINDS) {
            refuse("20: item(0, " + no + ")", x -> x.item(0, no), -2);
            refuse("20: item(20, " + no + ")", x -> x.item(20, no), -2);
            refuse("20: item(60, " + no + ")", x -> x.item(60, no), -2);
        }
    }

    /** Every number is a code. */
    private static void codes() {
        int[] codes = {MIN, -2, -1, 0, MAX};
        for (int code : codes) {
            SelfCheckSteps x = new SelfCheckSteps(0);
            due.is("2: person(1, " + code + ", 0)", x.person(1, code, 0), 1);
            x.card(1);
            due.is("6: code(" + (code + 1) + ")", x.code(code + 1), 0);
            x.card(1);
            due.is("6: code(" + code + ")", x.code(code), 1);
            x.reserve(5, 1);
            x.locker(5);
            due.is("16: open(0, " + (code + 1) + ")", x.open(0, code + 1), -1);
            due.is("16: open(0, " + code + ")", x.open(0, code), 5);
        }
    }

    private static void refuse(String name, Twins.Call call, int answer) {
        Stations.unchanged(due, Stations.all(), name, call, answer);
    }
}
