/** Promises 13, 14 and 21: rows that were kept offline, their join and its clashes. */
public final class JoinTest {
    private static final Due due = new Due();

    public static void main(String[] args) {
        rows();
        joinOfWrongNumbers();
        joinOfSomeRows();
        clashesOfLends();
        clashOfAPersonWithTen();
        clashesOfReturns();
        effectsOfALend();
        clashesStayUntilTheNextJoin();
        marks();
        manyClashes();
        due.finish();
    }

    private static void rows() {
        SelfCheckSteps x = new SelfCheckSteps(4);
        x.offline(true);
        Due.openSession(x, 1);
        due.is("21: rows(), a beginning is no row", x.rows(), 0);
        x.scan(3);
        due.is("21: rows(), a scan is no row", x.rows(), 0);
        x.lend();
        due.is("21: rows()", x.rows(), 1);
        x.back(4);
        due.is("21: rows()", x.rows(), 2);
        x.end(false);
        due.is("21: rows(), an end is no row", x.rows(), 2);
        x.offline(false);
        due.is("21: rows() online", x.rows(), 2);
        x.back(4);
        Due.lendAll(x, 1, 9, 9);
        due.is("21: rows(), online nothing is kept", x.rows(), 2);
        x.offline(true);
        x.back(5);
        due.is("21: rows(), later ones come behind", x.rows(), 3);
        x.back(5);
        due.is("21: back(5), all of them count", x.back(5), -7);
        x.offline(false);
        x.join(1);
        due.is("21: rows()", x.rows(), 3);
        x.offline(true);
        due.is("21: back(5), a joined row is none any more", x.back(5), 0);
    }

    private static void joinOfWrongNumbers() {
        SelfCheckSteps x = new SelfCheckSteps(9);
        due.is("13: join(0)", x.join(0), 0);
        due.is("13: join(1)", x.join(1), -1);
        due.is("13: join(-1)", x.join(-1), -1);
        x.offline(true);
        x.back(1);
        due.is("13: join(0) offline", x.join(0), -1);
        due.is("13: join(1) offline", x.join(1), -1);
        x.offline(false);
        due.is("13: join(2)", x.join(2), -1);
        due.is("13: join(MAX)", x.join(Integer.MAX_VALUE), -1);
        due.is("13: join(MIN)", x.join(Integer.MIN_VALUE), -1);
        due.is("13: rows()", x.rows(), 1);
        due.is("13: join(1)", x.join(1), 1);
        due.is("13: rows()", x.rows(), 0);
        due.is("13: join(1)", x.join(1), -1);
    }

    private static void joinOfSomeRows() {
        SelfCheckSteps x = new SelfCheckSteps(9);
        x.offline(true);
        Due.lendAll(x, 1, 10, 12);
        x.back(10);
        x.offline(false);
        due.is("13: join(1)", x.join(1), 0);
        due.is("13: item(10, 0)", x.item(10, 0), 1);
        due.is("13: item(11, 0)", x.item(11, 0), -1);
        due.is("13: rows()", x.rows(), 3);
        due.is("13: join(0)", x.join(0), 0);
        due.is("13: rows()", x.rows(), 3);
        due.is("13: join(2)", x.join(2), 0);
        due.is("13: item(11, 0)", x.item(11, 0), 1);
        due.is("13: item(12, 0)", x.item(12, 0), 1);
        due.is("13: item(10, 0)", x.item(10, 0), 1);
        due.is("13: join(1)", x.join(1), 0);
        due.is("13: item(10, 0)", x.item(10, 0), -1);
        due.is("13: rows()", x.rows(), 0);
    }

    private static void clashesOfLends() {
        SelfCheckSteps x = new SelfCheckSteps(9);
        Due.lendAll(x, 2, 20, 20);
        x.offline(true);
        Due.lendAll(x, 1, 20, 22);
        Due.lendAll(x, 3, 23, 23);
        Due.lendAll(x, 4, 24, 24);
        x.offline(false);
        x.reserve(21, 2);
        x.reserve(22, 1);
        x.block(3, true);
        Due.enterWrongCodes(x, 4, 3);
        due.is("13: join(5)", x.join(5), 4);
        due.is("13: item(20, 0)", x.item(20, 0), 2);
        due.is("13: item(21, 0)", x.item(21, 0), -1);
        due.is("13: item(21, 1)", x.item(21, 1), 2);
        due.is("13: item(22, 0)", x.item(22, 0), 1);
        due.is("13: item(23, 0)", x.item(23, 0), -1);
        due.is("13: item(24, 0)", x.item(24, 0), -1);
        int[][] clashes = {{20, 1, 0}, {21, 1, 0}, {23, 3, 0}, {24, 4, 0}, {-1, -1, -1}};
        for (int i = 0; i < clashes.length; i++) {
            for (int what = 0; what < 3; what++) {
                due.is("14: clash(" + i + ", " + what + ")", x.clash(i, what), clashes[i][what]);
            }
        }
    }

    private static void clashOfAPersonWithTen() {
        SelfCheckSteps x = new SelfCheckSteps(9);
        Due.lendAll(x, 1, 0, 8);
        x.offline(true);
        Due.lendAll(x, 1, 30, 32);
        x.back(0);
        Due.lendAll(x, 1, 33, 33);
        x.offline(false);
        due.is("13: join(5)", x.join(5), 2);
        due.is("13: item(30, 0), the tenth", x.item(30, 0), 1);
        due.is("13: item(31, 0)", x.item(31, 0), -1);
        due.is("13: item(32, 0)", x.item(32, 0), -1);
        due.is("13: item(33, 0), after a return", x.item(33, 0), 1);
        due.is("14: clash(0, 0)", x.clash(0, 0), 31);
        due.is("14: clash(1, 0)", x.clash(1, 0), 32);
    }

    private static void clashesOfReturns() {
        SelfCheckSteps x = new SelfCheckSteps(9);
        Due.lendAll(x, 1, 0, 1);
        x.offline(true);
        x.back(0);
        x.back(0);
        x.back(2);
        x.back(1);
        x.offline(false);
        x.reserve(1, 5);
        due.is("13: join(4)", x.join(4), 2);
        due.is("13: item(0, 0)", x.item(0, 0), -1);
        due.is("13: item(1, 0), a reserved one is no clash", x.item(1, 0), -1);
        due.is("14: clash(0, 0)", x.clash(0, 0), 0);
        due.is("14: clash(0, 1)", x.clash(0, 1), -1);
        due.is("14: clash(0, 2)", x.clash(0, 2), 1);
        due.is("14: clash(1, 0)", x.clash(1, 0), 2);
        due.is("14: clash(1, 2)", x.clash(1, 2), 1);
        due.is("14: clash(0, 3)", x.clash(0, 3), -1);
        due.is("14: clash(0, -1)", x.clash(0, -1), -1);
        due.is("14: clash(-1, 0)", x.clash(-1, 0), -1);
        due.is("14: clash(2, 0)", x.clash(2, 0), -1);
        due.is("14: clash(2, 2)", x.clash(2, 2), -1);
    }

    private static void effectsOfALend() {
        SelfCheckSteps x = new SelfCheckSteps(9);
        x.reserve(7, 1);
        x.locker(7);
        x.offline(true);
        Due.lendAll(x, 1, 7, 7);
        x.offline(false);
        Due.openSession(x, 2);
        Due.scanAndLend(x, 8);
        due.is("13: item(7, 1)", x.item(7, 1), 1);
        due.is("13: item(7, 2)", x.item(7, 2), 0);
        due.is("13: join(1)", x.join(1), 0);
        due.is("13: item(7, 0)", x.item(7, 0), 1);
        due.is("13: item(7, 1)", x.item(7, 1), -1);
        due.is("13: item(7, 2)", x.item(7, 2), -1);
        x.reserve(9, 3);
        due.is("13: locker(9), the locker is empty", x.locker(9), 0);
        due.is("13: screen(), the session goes on", x.screen(), 2);
        due.is("13: receipt(1), a joined row is not the session's", x.receipt(1), -1);
        due.is("13: end(false)", x.end(false), 1);
    }

    private static void clashesStayUntilTheNextJoin() {
        SelfCheckSteps x = new SelfCheckSteps(9);
        due.is("14: clash(0, 0) before a join", x.clash(0, 0), -1);
        x.offline(true);
        x.back(2);
        x.back(3);
        x.offline(false);
        due.is("14: join(1)", x.join(1), 1);
        due.is("14: clash(0, 0)", x.clash(0, 0), 2);
        x.join(2);
        due.is("14: clash(0, 0), that was no join", x.clash(0, 0), 2);
        x.offline(true);
        x.join(1);
        due.is("14: clash(0, 0) offline", x.clash(0, 0), 2);
        x.offline(false);
        due.is("14: join(1)", x.join(1), 1);
        due.is("14: clash(0, 0)", x.clash(0, 0), 3);
        due.is("14: clash(1, 0)", x.clash(1, 0), -1);
        due.is("14: join(0)", x.join(0), 0);
        due.is("14: clash(0, 0)", x.clash(0, 0), -1);
    }

    private static void marks() {
        SelfCheckSteps x = new SelfCheckSteps(9);
        x.offline(true);
        x.back(3);
        Due.lendAll(x, 1, 3, 3);
        x.offline(false);
        due.is("13: door(3)", x.door(3), false);
        due.is("13: join(1)", x.join(1), 1);
        due.is("13: door(3), the return of an item that is in turns its mark on", x.door(3), true);
        due.is("13: join(1)", x.join(1), 0);
        due.is("13: door(3)", x.door(3), false);

        SelfCheckSteps y = new SelfCheckSteps(9);
        y.offline(true);
        Due.lendAll(y, 1, 4, 5);
        y.back(4);
        y.offline(false);
        y.reserve(5, 2);
        y.back(5);
        due.is("13: join(1)", y.join(1), 0);
        due.is("13: door(4), its lend turns its mark off", y.door(4), false);
        due.is("13: join(1)", y.join(1), 1);
        due.is("13: door(5), a lend that is a clash is not done", y.door(5), true);
        due.is("13: join(1)", y.join(1), 0);
        due.is("13: door(4)", y.door(4), true);
    }

    private static void manyClashes() {
        SelfCheckSteps x = new SelfCheckSteps(100);
        x.offline(true);
        for (int i = 0; i < 100; i++) {
            x.back(i % 60);
        }
        x.offline(false);
        due.is("13: join(101)", x.join(101), -1);
        due.is("13: join(100)", x.join(100), 100);
        for (int i = 0; i < 100; i++) {
            due.is("14: clash(" + i + ", 0)", x.clash(i, 0), i % 60);
        }
        due.is("14: clash(100, 0)", x.clash(100, 0), -1);
    }
}
