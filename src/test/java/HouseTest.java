/** Promises 1 to 4, 17 and 20: the new object, persons, blocks, reservations, the door, items. */
public final class HouseTest {
    private static final Due due = new Due();

    public static void main(String[] args) {
        newObject();
        rowsThatAreKept();
        person();
        block();
        blockAndWrongCodes();
        reserve();
        door();
        item();
        due.finish();
    }

    private static void newObject() {
        SelfCheckSteps x = new SelfCheckSteps(10);
        due.is("1: screen()", x.screen(), 0);
        due.is("1: rows()", x.rows(), 0);
        due.is("1: offline(false)", x.offline(false), false);
        for (int i = 0; i < 60; i++) {
            due.is("1: item(" + i + ", 0)", x.item(i, 0), -1);
            due.is("1: item(" + i + ", 1)", x.item(i, 1), -1);
            due.is("1: item(" + i + ", 2)", x.item(i, 2), -1);
            due.is("1: door(" + i + ")", x.door(i), true);
        }
        for (int i = 0; i < 10; i++) {
            due.is("1: open(" + i + ", 0)", x.open(i, 0), -1);
        }
        for (int i = 0; i < 40; i++) {
            due.is("1: card(" + i + ")", x.card(i), 1);
            due.is("1: screen()", x.screen(), 1);
            due.is("1: code(0)", x.code(0), 1);
            due.is("1: end(false)", x.end(false), 0);
        }
    }

    private static void rowsThatAreKept() {
        int[] told = {Integer.MIN_VALUE, -1, 0, 1, 99, 100, 101, Integer.MAX_VALUE};
        int[] kept = {0, 0, 0, 1, 99, 100, 100, 100};
        for (int i = 0; i < told.length; i++) {
            SelfCheckSteps x = new SelfCheckSteps(told[i]);
            x.offline(true);
            for (int k = 0; k < kept[i]; k++) {
                due.is("1: back(3)", x.back(3), 0);
            }
            due.is("1: back(3) of " + told[i], x.back(3), -7);
            due.is("1: rows() of " + told[i], x.rows(), kept[i]);
        }
    }

    private static void person() {
        SelfCheckSteps x = new SelfCheckSteps(0);
        due.is("2: person(0, -7, 1)", x.person(0, -7, 1), 1);
        due.is("2: person(39, MAX, 2)", x.person(39, Integer.MAX_VALUE, 2), 1);
        due.is("2: person(-1, 5, 0)", x.person(-1, 5, 0), 0);
        due.is("2: person(40, 5, 0)", x.person(40, 5, 0), 0);
        due.is("2: person(0, 5, -1)", x.person(0, 5, -1), 0);
        due.is("2: person(0, 5, 3)", x.person(0, 5, 3), 0);
        x.card(0);
        due.is("2: screen()", x.screen(), 11);
        due.is("2: person(0, 8, 2)", x.person(0, 8, 2), 1);
        due.is("2: screen()", x.screen(), 21);
        due.is("2: code(8)", x.code(8), 1);
        x.end(false);
        x.card(39);
        due.is("2: code(MAX)", x.code(Integer.MAX_VALUE), 1);
    }

    private static void block() {
        SelfCheckSteps x = new SelfCheckSteps(0);
        due.is("3: block(5, true)", x.block(5, true), false);
        due.is("3: block(5, true)", x.block(5, true), true);
        due.is("3: card(5)", x.card(5), -1);
        due.is("3: block(4, false)", x.block(4, false), false);
        due.is("3: block(5, false)", x.block(5, false), true);
        due.is("3: card(5)", x.card(5), 1);
        due.is("3: block(-1, true)", x.block(-1, true), false);
        due.is("3: block(-1, true)", x.block(-1, true), false);
        due.is("3: block(40, true)", x.block(40, true), false);
        due.is("3: block(40, true)", x.block(40, true), false);
        due.is("3: block(39, true)", x.block(39, true), false);
        due.is("3: block(39, true)", x.block(39, true), true);
    }

    private static void blockAndWrongCodes() {
        SelfCheckSteps x = new SelfCheckSteps(0);
        Due.enterWrongCodes(x, 5, 2);
        due.is("3: block(5, false) after two wrong codes", x.block(5, false), false);
        x.card(5);
        due.is("3: code(1)", x.code(1), 0);
        x.card(5);
        due.is("3: code(1)", x.code(1), 0);
        x.card(5);
        due.is("3: code(1)", x.code(1), -1);
        due.is("3: block(5, false) after three wrong codes", x.block(5, false), true);
        due.is("3: block(5, false) again", x.block(5, false), false);

        Due.enterWrongCodes(x, 6, 3);
        due.is("3: block(6, true) after three wrong codes", x.block(6, true), true);
        x.offline(true);
        due.is("3: card(6) offline, wrong codes do not count any more", x.card(6), 1);
    }

    private static void reserve() {
        SelfCheckSteps x = new SelfCheckSteps(0);
        due.is("4: reserve(0, 0)", x.reserve(0, 0), 1);
        due.is("4: item(0, 1)", x.item(0, 1), 0);
        due.is("4: reserve(59, 39)", x.reserve(59, 39), 1);
        due.is("4: item(59, 1)", x.item(59, 1), 39);
        due.is("4: reserve(59, 40)", x.reserve(59, 40), 0);
        due.is("4: reserve(59, -2)", x.reserve(59, -2), 0);
        due.is("4: item(59, 1)", x.item(59, 1), 39);
        due.is("4: reserve(59, 7)", x.reserve(59, 7), 1);
        due.is("4: item(59, 1)", x.item(59, 1), 7);
        due.is("4: reserve(59, -1)", x.reserve(59, -1), 1);
        due.is("4: item(59, 1)", x.item(59, 1), -1);
        due.is("4: reserve(60, 1)", x.reserve(60, 1), 0);
        due.is("4: reserve(-1, 1)", x.reserve(-1, 1), 0);
        due.is("4: reserve(60, -1)", x.reserve(60, -1), 0);
    }

    private static void door() {
        SelfCheckSteps x = new SelfCheckSteps(0);
        due.is("17: door(0)", x.door(0), true);
        due.is("17: door(59)", x.door(59), true);
        due.is("17: door(-1)", x.door(-1), false);
        due.is("17: door(60)", x.door(60), false);
        Due.lendAll(x, 3, 0, 0);
        due.is("17: door(0) of a lent item", x.door(0), false);
        due.is("17: door(1)", x.door(1), true);
        x.back(0);
        due.is("17: door(0) of a returned item", x.door(0), true);
    }

    private static void item() {
        SelfCheckSteps x = new SelfCheckSteps(0);
        Due.lendAll(x, 3, 20, 20);
        x.reserve(20, 4);
        x.reserve(21, 5);
        x.locker(21);
        due.is("20: item(20, 0)", x.item(20, 0), 3);
        due.is("20: item(20, 1)", x.item(20, 1), 4);
        due.is("20: item(20, 2)", x.item(20, 2), -1);
        due.is("20: item(21, 0)", x.item(21, 0), -1);
        due.is("20: item(21, 1)", x.item(21, 1), 5);
        due.is("20: item(21, 2)", x.item(21, 2), 0);
        due.is("20: item(20, -1)", x.item(20, -1), -2);
        due.is("20: item(20, 3)", x.item(20, 3), -2);
        due.is("20: item(-1, 0)", x.item(-1, 0), -2);
        due.is("20: item(60, 1)", x.item(60, 1), -2);
    }
}
