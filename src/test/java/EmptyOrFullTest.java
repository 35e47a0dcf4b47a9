/** What is empty or full: scans, rows, lockers, sessions, five items offline, ten items of a person. */
public final class EmptyOrFullTest {
    private static final Due due = new Due();

    public static void main(String[] args) {
        noItemScanned();
        noRow();
        noRowLeft();
        noRowEver();
        aRowIsLeftAgain();
        hundredRows();
        noLockerEmpty();
        aLockerIsEmptyAgain();
        fiveItemsOffline();
        fiveItemsAndReturns();
        noFiveOnline();
        tenItems();
        tenItemsOfALocker();
        tenItemsOfAJoin();
        tenItemsOfAPersonBefore();
        emptySession();
        sessionOfOneItem();
        due.finish();
    }

    private static void noItemScanned() {
        SelfCheckSteps x = new SelfCheckSteps(9);
        Due.openSession(x, 1);
        due.is("9: lend() in a new session", x.lend(), -1);
        x.scan(60);
        due.is("9: lend() after no item", x.lend(), -1);
        x.back(4);
        due.is("9: lend(), a return is no scan", x.lend(), -1);
        x.scan(4);
        x.twice();
        due.is("9: lend() after two at once", x.lend(), -1);
        x.scan(4);
        due.is("9: lend()", x.lend(), 1);
        due.is("9: lend(), done already", x.lend(), -1);
        x.back(4);
        due.is("9: lend(), done already, though it is in again", x.lend(), -1);
        x.twice();
        due.is("9: lend() after two at once", x.lend(), -1);
    }

    private static void noRow() {
        SelfCheckSteps x = new SelfCheckSteps(9);
        due.is("21: rows()", x.rows(), 0);
        due.is("13: join(0)", x.join(0), 0);
        due.is("13: join(1)", x.join(1), -1);
        due.is("14: clash(0, 0)", x.clash(0, 0), -1);
        x.offline(true);
        due.is("21: rows() offline", x.rows(), 0);
        x.offline(false);
        Twins.unchanged(due, "13: join(0) of no row, after no join", Twins.station(9, y -> { }), y -> y.join(0), 0);
    }

    private static void noRowLeft() {
        SelfCheckSteps x = new SelfCheckSteps(2);
        x.offline(true);
        Due.openSession(x, 1);
        due.is("9: lend(), the first row", Due.scanAndLend(x, 3), 1);
        due.is("10: back(4), the last row", x.back(4), 0);
        due.is("9: lend(), no row is left", Due.scanAndLend(x, 5), -7);
        due.is("10: back(5), no row is left", x.back(5), -7);
        due.is("21: rows()", x.rows(), 2);
        due.is("18: receipt(1)", x.receipt(1), -1);
        due.is("17: door(5), its mark was not turned", x.door(5), true);
        due.is("10: back(3), no row is left", x.back(3), -7);
        due.is("17: door(3), its mark was not turned", x.door(3), false);
        due.is("11: end(false)", x.end(false), 1);
        x.offline(false);
        due.is("10: back(5) online needs no row", x.back(5), 2);
        Due.openSession(x, 1);
        due.is("9: lend() online needs no row", Due.scanAndLend(x, 5), 1);
        due.is("21: rows()", x.rows(), 2);
    }

    private static void noRowEver() {
        SelfCheckSteps x = new SelfCheckSteps(0);
        x.offline(true);
        due.is("10: back(4)", x.back(4), -7);
        Due.openSession(x, 1);
        due.is("9: lend() without a scan", x.lend(), -1);
        due.is("9: lend()", Due.scanAndLend(x, 3), -7);
        due.is("11: end(true)", x.end(true), 0);
        due.is("21: rows()", x.rows(), 0);
    }

    private static void aRowIsLeftAgain() {
        SelfCheckSteps x = new SelfCheckSteps(2);
        x.offline(true);
        Due.openSession(x, 1);
        Due.scanAndLend(x, 3);
        Due.scanAndLend(x, 4);
        due.is("10: back(5)", x.back(5), -7);
        due.is("11: end(true), its row goes", x.end(true), 1);
        due.is("10: back(5)", x.back(5), 0);
        due.is("10: back(5)", x.back(5), -7);
        x.offline(false);
        due.is("13: join(1)", x.join(1), 0);
        x.offline(true);
        due.is("10: back(5), a joined row is none any more", x.back(5), 0);
        due.is("10: back(5)", x.back(5), -7);
        x.offline(false);
        due.is("13: join(2)", x.join(2), 2);
        due.is("21: rows()", x.rows(), 0);
    }

    private static void hundredRows() {
        SelfCheckSteps x = new SelfCheckSteps(100);
        x.offline(true);
        for (int i = 0; i < 20; i++) {
            Due.lendAll(x, i, 0, 4);
        }
        due.is("21: rows()", x.rows(), 100);
        due.is("10: back(0)", x.back(0), -7);
        Due.openSession(x, 20);
        due.is("9: lend()", Due.scanAndLend(x, 5), -7);
        x.offline(false);
        due.is("13: join(100), the first session's five go", x.join(100), 95);
        due.is("14: clash(0, 1)", x.clash(0, 1), 1);
        due.is("14: clash(94, 0)", x.clash(94, 0), 4);
        due.is("14: clash(94, 1)", x.clash(94, 1), 19);
        due.is("14: clash(95, 0)", x.clash(95, 0), -1);
    }

    private static void noLockerEmpty() {
        SelfCheckSteps x = new SelfCheckSteps(0);
        for (int i = 0; i < 10; i++) {
            x.reserve(i, 1);
            due.is("15: locker(" + i + ")", x.locker(i), i);
        }
        x.reserve(10, 2);
        due.is("15: locker(10), no locker is empty", x.locker(10), -1);
        due.is("20: item(10, 2)", x.item(10, 2), -1);
        x.reserve(4, -1);
        due.is("15: locker(10), a locker for nobody is not empty", x.locker(10), -1);
        due.is("16: open(4, 0), for nobody", x.open(4, 0), -1);
        due.is("15: locker(10)", x.locker(10), -1);
    }

    private static void aLockerIsEmptyAgain() {
        SelfCheckSteps x = new SelfCheckSteps(0);
        for (int i = 0; i < 10; i++) {
            x.reserve(i, 1);
            x.locker(i);
        }
        due.is("16: open(9, 0)", x.open(9, 0), 9);
        due.is("16: open(9, 0), empty", x.open(9, 0), -1);
        x.reserve(10, 2);
        due.is("15: locker(10), the last one", x.locker(10), 9);
        Due.lendAll(x, 1, 3, 3);
        x.reserve(11, 2);
        due.is("15: locker(11), in the place of a lent item", x.locker(11), 3);
        due.is("16: open(3, 0)", x.open(3, 0), 11);
        due.is("10: back(9)", x.back(9), 0);
        due.is("15: locker(9), not reserved any more", x.locker(9), -1);
        x.reserve(9, 1);
        due.is("15: locker(9) again", x.locker(9), 3);
    }

    private static void fiveItemsOffline() {
        SelfCheckSteps x = new SelfCheckSteps(100);
        x.offline(true);
        for (int session = 0; session < 2; session++) {
            Due.openSession(x, 1);
            for (int i = 0; i < 5; i++) {
                due.is("9: lend() offline", Due.scanAndLend(x, i), i + 1);
            }
            due.is("9: lend() offline, the sixth", Due.scanAndLend(x, 5), -6);
            due.is("9: lend() offline, the sixth again", x.lend(), -6);
            due.is("17: door(5)", x.door(5), true);
            due.is("18: receipt(5)", x.receipt(5), -1);
            due.is("21: rows()", x.rows(), 5 + 5 * session);
            due.is("11: end(false)", x.end(false), 5);
        }
    }

    /** Five are counted as lent, whether or not they came back. */
    private static void fiveItemsAndReturns() {
        SelfCheckSteps x = new SelfCheckSteps(100);
        x.offline(true);
        Due.openSession(x, 1);
        for (int i = 0; i < 5; i++) {
            due.is("9: lend() offline", Due.scanAndLend(x, i), i + 1);
            due.is("10: back(" + i + ") offline", x.back(i), 0);
        }
        due.is("9: lend() offline, the sixth", Due.scanAndLend(x, 5), -6);
        due.is("9: lend() offline, nothing scanned before five", x.twice() == 1 ? x.lend() : 0, -1);
        due.is("10: back(6) offline, returns go on", x.back(6), 0);
        due.is("11: end(true)", x.end(true), 4);
        due.is("21: rows()", x.rows(), 10);
    }

    private static void noFiveOnline() {
        SelfCheckSteps x = new SelfCheckSteps(0);
        Due.openSession(x, 1);
        for (int i = 0; i < 10; i++) {
            due.is("9: lend() online", Due.scanAndLend(x, i), i + 1);
        }
    }

    private static void tenItems() {
        SelfCheckSteps x = new SelfCheckSteps(0);
        Due.lendAll(x, 1, 0, 8);
        Due.openSession(x, 1);
        due.is("9: lend(), the tenth", Due.scanAndLend(x, 9), 1);
        due.is("9: lend(), the eleventh", Due.scanAndLend(x, 10), -5);
        due.is("20: item(10, 0)", x.item(10, 0), -1);
        due.is("17: door(10)", x.door(10), true);
        due.is("11: end(true), the tenth comes back", x.end(true), 0);
        Due.openSession(x, 1);
        due.is("9: lend(), the tenth", Due.scanAndLend(x, 10), 1);
        due.is("9: lend(), the eleventh", Due.scanAndLend(x, 11), -5);
        due.is("10: back(0)", x.back(0), 0);
        due.is("9: lend(), the tenth again", x.lend(), 2);
        x.end(false);
        Due.openSession(x, 2);
        due.is("9: lend() of another person", Due.scanAndLend(x, 12), 1);
    }

    private static void tenItemsOfALocker() {
        SelfCheckSteps x = new SelfCheckSteps(0);
        Due.lendAll(x, 1, 0, 8);
        for (int i = 20; i < 22; i++) {
            x.reserve(i, 1);
            x.locker(i);
        }
        due.is("16: open(0, 0), the tenth", x.open(0, 0), 20);
        due.is("16: open(1, 0), the eleventh", x.open(1, 0), -5);
        due.is("20: item(21, 2)", x.item(21, 2), 1);
        Due.openSession(x, 1);
        due.is("9: lend(), the eleventh", Due.scanAndLend(x, 9), -5);
        x.back(20);
        due.is("16: open(1, 0), the tenth", x.open(1, 0), 21);
        due.is("9: lend(), the eleventh", x.lend(), -5);
    }

    private static void tenItemsOfAJoin() {
        SelfCheckSteps x = new SelfCheckSteps(100);
        x.offline(true);
        Due.lendAll(x, 1, 0, 4);
        Due.lendAll(x, 1, 5, 9);
        Due.lendAll(x, 1, 10, 11);
        x.offline(false);
        due.is("13: join(10), the tenth goes", x.join(10), 0);
        due.is("20: item(9, 0)", x.item(9, 0), 1);
        due.is("13: join(1), the eleventh is a clash", x.join(1), 1);
        due.is("14: clash(0, 0)", x.clash(0, 0), 10);
        due.is("20: item(10, 0)", x.item(10, 0), -1);
        x.back(0);
        due.is("13: join(1), the tenth goes", x.join(1), 0);
        due.is("20: item(11, 0)", x.item(11, 0), 1);
    }

    /** Offline the station does not know that a person has ten; the join does. */
    private static void tenItemsOfAPersonBefore() {
        SelfCheckSteps x = new SelfCheckSteps(100);
        Due.lendAll(x, 1, 0, 9);
        x.offline(true);
        Due.openSession(x, 1);
        due.is("9: lend() offline", Due.scanAndLend(x, 10), 1);
        x.offline(false);
        due.is("13: join(1)", x.join(1), 1);
        due.is("14: clash(0, 1)", x.clash(0, 1), 1);
    }

    private static void emptySession() {
        for (boolean offline : new boolean[] {false, true}) {
            Twins.Made open = Twins.station(9, x -> {
                Pasts.busy(x);
                x.offline(offline);
                Pasts.open(x);
            });
            due.is("18: receipt(0)", open.make().receipt(0), -1);
            due.is("11: end(false)", open.make().end(false), 0);
            due.is("11: end(true)", open.make().end(true), 0);
            Twins.alike(due, "11: end(true) and end(false) of a session without a lend", () -> {
                SelfCheckSteps x = open.make();
                x.end(true);
                return x;
            }, () -> {
                SelfCheckSteps x = open.make();
                x.end(false);
                return x;
            });
        }
    }

    /** A session whose one lend was cancelled is like one without a lend. */
    private static void sessionOfOneItem() {
        for (boolean offline : new boolean[] {false, true}) {
            Twins.alike(due, "11: end(true) of one item", Twins.station(9, x -> {
                Pasts.busy(x);
                x.offline(offline);
                Pasts.done(x);
                due.is("11: end(true)", x.end(true), 0);
                due.is("18: receipt(0)", x.receipt(0), -1);
            }), Twins.station(9, x -> {
                Pasts.busy(x);
                x.offline(offline);
                Pasts.open(x);
                x.end(false);
            }));
        }
    }
}
