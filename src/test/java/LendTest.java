/** Promises 9 to 11 and 18: lends, returns, ends and receipts, online and offline. */
public final class LendTest {
    private static final Due due = new Due();

    public static void main(String[] args) {
        lend();
        lendThatIsRefused();
        orderOfRefusals();
        lendOfTen();
        lendAfterARefusal();
        lendOffline();
        lendOfflineWithoutRows();
        back();
        backOffline();
        end();
        endCancelled();
        endCancelledOfAReturnedItem();
        endCancelledOffline();
        receipt();
        longReceipt();
        due.finish();
    }

    private static void lend() {
        SelfCheckSteps x = new SelfCheckSteps(9);
        due.is("9: lend() idle", x.lend(), -8);
        x.card(1);
        due.is("9: lend() while it asks", x.lend(), -8);
        x.code(0);
        due.is("9: lend() without a scan", x.lend(), -1);
        x.reserve(0, 1);
        x.scan(0);
        due.is("9: lend()", x.lend(), 1);
        due.is("9: item(0, 0)", x.item(0, 0), 1);
        due.is("9: item(0, 1), its reservation is gone", x.item(0, 1), -1);
        due.is("9: door(0)", x.door(0), false);
        due.is("9: lend() again", x.lend(), -1);
        x.scan(59);
        due.is("9: lend()", x.lend(), 2);
        due.is("9: rows() online", x.rows(), 0);
        x.end(false);
        Due.openSession(x, 1);
        due.is("9: lend() begins at one in a new session", Due.scanAndLend(x, 2), 1);
    }

    private static void lendThatIsRefused() {
        SelfCheckSteps x = new SelfCheckSteps(0);
        Due.lendAll(x, 2, 5, 5);
        x.reserve(6, 2);
        Due.openSession(x, 1);
        Due.scanAndLend(x, 4);
        due.is("9: lend() of another's item", Due.scanAndLend(x, 5), -2);
        due.is("9: item(5, 0)", x.item(5, 0), 2);
        due.is("9: lend() of one's own item", Due.scanAndLend(x, 4), -2);
        due.is("9: lend() of an item reserved for another", Due.scanAndLend(x, 6), -3);
        due.is("9: item(6, 0)", x.item(6, 0), -1);
        due.is("9: item(6, 1)", x.item(6, 1), 2);
        due.is("9: door(6)", x.door(6), true);
        x.block(1, true);
        due.is("9: lend() of a blocked person", Due.scanAndLend(x, 7), -4);
        due.is("9: item(7, 0)", x.item(7, 0), -1);
        due.is("9: end(false)", x.end(false), 1);
    }

    private static void orderOfRefusals() {
        SelfCheckSteps x = new SelfCheckSteps(0);
        Due.lendAll(x, 1, 0, 9);
        Due.lendAll(x, 2, 10, 10);
        x.reserve(10, 3);
        x.reserve(11, 3);
        Due.openSession(x, 1);
        due.is("9: lend() of a person who has ten", Due.scanAndLend(x, 12), -5);
        x.block(1, true);
        due.is("9: lend(), out before reserved", Due.scanAndLend(x, 10), -2);
        due.is("9: lend(), reserved before blocked", Due.scanAndLend(x, 11), -3);
        due.is("9: lend(), blocked before ten", Due.scanAndLend(x, 12), -4);
    }

    private static void lendOfTen() {
        SelfCheckSteps x = new SelfCheckSteps(0);
        Due.lendAll(x, 1, 0, 5);
        Due.openSession(x, 1);
        for (int i = 6; i < 10; i++) {
            due.is("9: lend() of " + i, Due.scanAndLend(x, i), i - 5);
        }
        due.is("9: lend() of the eleventh", Due.scanAndLend(x, 10), -5);
        x.back(0);
        due.is("9: lend() after a return", x.lend(), 5);
        due.is("9: lend() of the eleventh", Due.scanAndLend(x, 11), -5);
        x.end(false);
        Due.openSession(x, 2);
        due.is("9: lend() of another person", Due.scanAndLend(x, 11), 1);
    }

    private static void lendAfterARefusal() {
        SelfCheckSteps x = new SelfCheckSteps(0);
        x.reserve(6, 2);
        Due.openSession(x, 1);
        due.is("9: lend()", Due.scanAndLend(x, 6), -3);
        due.is("9: lend(), it was not done", x.lend(), -3);
        x.reserve(6, -1);
        due.is("9: scan(6)", x.scan(6), 2);
        due.is("9: lend()", x.lend(), 1);
    }

    private static void lendOffline() {
        SelfCheckSteps x = new SelfCheckSteps(20);
        Due.lendAll(x, 2, 0, 0);
        x.reserve(1, 2);
        x.block(1, true);
        x.offline(true);
        due.is("9: lend() offline, idle", x.lend(), -8);
        Due.openSession(x, 1);
        due.is("9: lend() offline without a scan", x.lend(), -1);
        due.is("9: lend() offline of an item that is out", Due.scanAndLend(x, 0), 1);
        due.is("9: lend() offline, done", x.lend(), -1);
        due.is("9: lend() offline of a reserved item", Due.scanAndLend(x, 1), 2);
        due.is("9: lend() offline", Due.scanAndLend(x, 2), 3);
        due.is("9: door(2)", x.door(2), false);
        due.is("9: item(0, 0)", x.item(0, 0), 2);
        due.is("9: item(1, 1)", x.item(1, 1), 2);
        due.is("9: item(2, 0)", x.item(2, 0), -1);
        due.is("9: lend() offline of the same item", Due.scanAndLend(x, 1), 4);
        due.is("9: lend() offline", Due.scanAndLend(x, 4), 5);
        due.is("9: lend() offline, the sixth", Due.scanAndLend(x, 5), -6);
        due.is("9: door(5)", x.door(5), true);
        due.is("9: rows()", x.rows(), 5);
        due.is("9: end(false)", x.end(false), 5);
        Due.openSession(x, 1);
        due.is("9: lend() offline in the next session", Due.scanAndLend(x, 5), 1);
        due.is("9: rows()", x.rows(), 6);
    }

    private static void lendOfflineWithoutRows() {
        SelfCheckSteps x = new SelfCheckSteps(5);
        x.offline(true);
        Due.openSession(x, 1);
        for (int i = 0; i < 5; i++) {
            Due.scanAndLend(x, i);
        }
        due.is("9: lend(), five before no row", Due.scanAndLend(x, 6), -6);
        x.end(false);
        Due.openSession(x, 1);
        due.is("9: lend() offline without a row", Due.scanAndLend(x, 7), -7);
        due.is("9: door(7)", x.door(7), true);
        due.is("9: receipt(0)", x.receipt(0), -1);
        due.is("9: rows()", x.rows(), 5);

        SelfCheckSteps y = new SelfCheckSteps(20);
        Due.lendAll(y, 1, 0, 9);
        y.offline(true);
        Due.openSession(y, 1);
        due.is("9: lend() offline of a person who has ten", Due.scanAndLend(y, 20), 1);
    }

    private static void back() {
        SelfCheckSteps x = new SelfCheckSteps(0);
        due.is("10: back(-1)", x.back(-1), -1);
        due.is("10: back(60)", x.back(60), -1);
        due.is("10: back(0) of an item that is in", x.back(0), 2);
        Due.lendAll(x, 1, 58, 59);
        x.reserve(59, 1);
        x.card(2);
        due.is("10: back(58) while it asks", x.back(58), 0);
        due.is("10: screen()", x.screen(), 1);
        due.is("10: item(58, 0)", x.item(58, 0), -1);
        due.is("10: door(58)", x.door(58), true);
        x.code(0);
        due.is("10: back(59) of a reserved item", x.back(59), 1);
        due.is("10: item(59, 0)", x.item(59, 0), -1);
        due.is("10: item(59, 1)", x.item(59, 1), 1);
        due.is("10: door(59)", x.door(59), true);
        due.is("10: back(59) again", x.back(59), 2);
        due.is("10: rows() online", x.rows(), 0);
        due.is("10: lend() after returns", x.lend(), -1);
    }

    private static void backOffline() {
        SelfCheckSteps x = new SelfCheckSteps(3);
        Due.lendAll(x, 1, 5, 6);
        x.reserve(5, 2);
        x.offline(true);
        due.is("10: back(60) offline", x.back(60), -1);
        due.is("10: back(-1) offline", x.back(-1), -1);
        due.is("10: back(5) offline, reserved", x.back(5), 0);
        due.is("10: door(5)", x.door(5), true);
        due.is("10: item(5, 0), the house does not know it yet", x.item(5, 0), 1);
        due.is("10: back(5) offline again", x.back(5), 0);
        due.is("10: back(7) offline of an item that is in", x.back(7), 0);
        due.is("10: back(6) offline without a row", x.back(6), -7);
        due.is("10: door(6), it was not done", x.door(6), false);
        due.is("10: back(60) offline without a row", x.back(60), -1);
        due.is("10: rows()", x.rows(), 3);

        // An item that was lent offline is still in for the house, but its mark is off.
        SelfCheckSteps y = new SelfCheckSteps(3);
        y.offline(true);
        Due.lendAll(y, 1, 5, 5);
        y.offline(false);
        due.is("10: door(5)", y.door(5), false);
        due.is("10: back(5) of an item that is in", y.back(5), 2);
        due.is("10: door(5)", y.door(5), true);
    }

    private static void end() {
        SelfCheckSteps x = new SelfCheckSteps(0);
        due.is("11: end(false) idle", x.end(false), -1);
        due.is("11: end(true) idle", x.end(true), -1);
        x.card(1);
        due.is("11: end(false) while it asks", x.end(false), -1);
        due.is("11: screen()", x.screen(), 1);
        x.code(0);
        due.is("11: end(false)", x.end(false), 0);
        due.is("11: screen()", x.screen(), 0);
        Due.openSession(x, 1);
        Due.scanAndLend(x, 1);
        Due.scanAndLend(x, 2);
        x.back(1);
        due.is("11: end(false), it has lent what came back too", x.end(false), 2);
        due.is("11: item(2, 0)", x.item(2, 0), 1);
    }

    private static void endCancelled() {
        SelfCheckSteps x = new SelfCheckSteps(0);
        Due.openSession(x, 1);
        due.is("11: end(true) without a lend", x.end(true), 0);
        x.reserve(2, 1);
        Due.openSession(x, 1);
        Due.scanAndLend(x, 1);
        Due.scanAndLend(x, 2);
        x.scan(3);
        due.is("11: end(true)", x.end(true), 1);
        due.is("11: screen()", x.screen(), 0);
        due.is("11: item(2, 0)", x.item(2, 0), -1);
        due.is("11: item(2, 1)", x.item(2, 1), -1);
        due.is("11: door(2)", x.door(2), true);
        due.is("11: item(1, 0)", x.item(1, 0), 1);
        due.is("11: door(1)", x.door(1), false);
        due.is("11: receipt(0)", x.receipt(0), 1);
        due.is("11: receipt(1)", x.receipt(1), -1);
    }

    private static void endCancelledOfAReturnedItem() {
        SelfCheckSteps x = new SelfCheckSteps(0);
        Due.openSession(x, 1);
        Due.scanAndLend(x, 1);
        Due.scanAndLend(x, 2);
        x.back(2);
        due.is("11: end(true)", x.end(true), 1);
        due.is("11: item(2, 0)", x.item(2, 0), -1);
        due.is("11: item(1, 0), only the latest comes back", x.item(1, 0), 1);
    }

    private static void endCancelledOffline() {
        SelfCheckSteps x = new SelfCheckSteps(9);
        Due.lendAll(x, 1, 30, 30);
        x.offline(true);
        Due.openSession(x, 2);
        due.is("11: end(true) offline without a lend", x.end(true), 0);
        Due.openSession(x, 2);
        Due.scanAndLend(x, 4);
        Due.scanAndLend(x, 5);
        x.back(30);
        due.is("11: end(true) offline", x.end(true), 1);
        due.is("11: door(5)", x.door(5), true);
        due.is("11: door(4)", x.door(4), false);
        due.is("11: rows()", x.rows(), 2);
        x.offline(false);
        due.is("11: join(2), the return after the lend stays", x.join(2), 0);
        due.is("11: item(4, 0)", x.item(4, 0), 2);
        due.is("11: item(5, 0)", x.item(5, 0), -1);
        due.is("11: item(30, 0)", x.item(30, 0), -1);

        x.offline(true);
        Due.openSession(x, 2);
        Due.scanAndLend(x, 8);
        x.back(8);
        due.is("11: end(true) offline, its row is the first", x.end(true), 0);
        due.is("11: rows()", x.rows(), 1);
        x.offline(false);
        due.is("11: join(1), the return alone is left", x.join(1), 1);
        due.is("11: clash(0, 2)", x.clash(0, 2), 1);

        // Online no row goes, though an older one stands there.
        x.offline(true);
        Due.lendAll(x, 2, 6, 6);
        x.offline(false);
        Due.openSession(x, 2);
        Due.scanAndLend(x, 7);
        x.end(true);
        due.is("11: rows() after an online end", x.rows(), 1);
        x.offline(true);
        Due.openSession(x, 2);
        x.end(true);
        due.is("11: rows() after an end without a lend", x.rows(), 1);
    }

    private static void receipt() {
        SelfCheckSteps x = new SelfCheckSteps(9);
        due.is("18: receipt(0)", x.receipt(0), -1);
        Due.openSession(x, 1);
        due.is("18: receipt(0)", x.receipt(0), -1);
        Due.scanAndLend(x, 40);
        x.scan(42);
        Due.scanAndLend(x, 41);
        due.is("18: receipt(0)", x.receipt(0), 40);
        due.is("18: receipt(1)", x.receipt(1), 41);
        due.is("18: receipt(2)", x.receipt(2), -1);
        due.is("18: receipt(-1)", x.receipt(-1), -1);
        due.is("18: receipt(MAX)", x.receipt(Integer.MAX_VALUE), -1);
        due.is("18: receipt(MIN)", x.receipt(Integer.MIN_VALUE), -1);
        x.end(false);
        due.is("18: receipt(1) of the latest session", x.receipt(1), 41);
        x.card(2);
        due.is("18: receipt(1) while it asks", x.receipt(1), 41);
        x.code(5);
        due.is("18: receipt(1) after a wrong code", x.receipt(1), 41);
        Due.openSession(x, 2);
        due.is("18: receipt(0) of a new session", x.receipt(0), -1);
        x.offline(true);
        Due.openSession(x, 2);
        Due.scanAndLend(x, 40);
        due.is("18: receipt(0) offline", x.receipt(0), 40);
    }

    /** As many lends as 512 calls can hold: with returns a session is not bound to ten. */
    private static void longReceipt() {
        SelfCheckSteps x = new SelfCheckSteps(0);
        Due.openSession(x, 1);
        for (int i = 0; i < 165; i++) {
            due.is("18: lend() " + i, Due.scanAndLend(x, i % 60), i + 1);
            x.back(i % 60);
        }
        due.is("18: receipt(0)", x.receipt(0), 0);
        due.is("18: receipt(164)", x.receipt(164), 44);
        due.is("18: receipt(165)", x.receipt(165), -1);
        due.is("18: end(true)", x.end(true), 164);
        due.is("18: receipt(164)", x.receipt(164), -1);
    }
}
