/** Promises 5 to 8, 12 and 19: cards, codes, scans, going offline, the screen. */
public final class StationTest {
    private static final Due due = new Due();

    public static void main(String[] args) {
        card();
        cardOffline();
        code();
        wrongCodes();
        wrongCodesOffline();
        scan();
        twice();
        offline();
        screen();
        due.finish();
    }

    private static void card() {
        SelfCheckSteps x = new SelfCheckSteps(0);
        due.is("5: card(-1)", x.card(-1), 0);
        due.is("5: card(40)", x.card(40), 0);
        x.block(2, true);
        due.is("5: card(2) blocked", x.card(2), -1);
        due.is("5: screen()", x.screen(), 0);
        due.is("5: card(39)", x.card(39), 1);
        due.is("5: card(1) while it asks", x.card(1), 0);
        due.is("5: card(2) while it asks", x.card(2), 0);
        due.is("5: code(0)", x.code(0), 1);
        due.is("5: card(1) while it is open", x.card(1), 0);
        due.is("5: card(2) while it is open", x.card(2), 0);
        x.end(false);
        due.is("5: card(1)", x.card(1), 1);
    }

    private static void cardOffline() {
        SelfCheckSteps x = new SelfCheckSteps(0);
        x.block(2, true);
        Due.enterWrongCodes(x, 3, 3);
        x.offline(true);
        due.is("5: card(3) offline, blocked by codes", x.card(3), -1);
        due.is("5: card(2) offline, blocked by the house", x.card(2), 1);
        due.is("5: code(0)", x.code(0), 1);
        x.offline(false);
        due.is("5: card(2) online again", x.card(2), -1);
    }

    private static void code() {
        SelfCheckSteps x = new SelfCheckSteps(0);
        x.person(1, 77, 0);
        due.is("6: code(77) without a card", x.code(77), -2);
        x.card(1);
        due.is("6: code(77)", x.code(77), 1);
        due.is("6: code(77) while it is open", x.code(77), -2);
        x.end(false);
        x.card(1);
        due.is("6: code(78)", x.code(78), 0);
        due.is("6: screen()", x.screen(), 0);
        due.is("6: code(77) after a wrong one", x.code(77), -2);
        x.card(1);
        x.block(1, true);
        due.is("6: code(77) of a person blocked meanwhile", x.code(77), 1);
    }

    private static void wrongCodes() {
        SelfCheckSteps x = new SelfCheckSteps(0);
        Due.enterWrongCodes(x, 1, 2);
        x.card(1);
        due.is("6: code(0), the right one begins anew", x.code(0), 1);
        x.end(false);
        Due.enterWrongCodes(x, 1, 2);
        Due.enterWrongCodes(x, 2, 2);
        Due.openSession(x, 3);
        x.end(false);
        x.card(1);
        due.is("6: code(1), the third of its own in a row", x.code(1), -1);
        due.is("6: screen()", x.screen(), 0);
        due.is("6: card(1)", x.card(1), -1);
        x.card(2);
        x.offline(false);
        x.card(2);
        due.is("6: code(1) after a card without a code", x.code(1), -1);
        due.is("6: card(2)", x.card(2), -1);
        due.is("6: card(3)", x.card(3), 1);
    }

    private static void wrongCodesOffline() {
        SelfCheckSteps x = new SelfCheckSteps(0);
        x.block(1, true);
        Due.enterWrongCodes(x, 2, 1);
        x.offline(true);
        Due.enterWrongCodes(x, 1, 2);
        x.card(1);
        due.is("6: code(1) offline, blocked by the house before", x.code(1), -1);
        due.is("6: card(1)", x.card(1), -1);
        Due.enterWrongCodes(x, 2, 1);
        x.offline(false);
        x.card(2);
        due.is("6: code(1), the third over offline and online", x.code(1), -1);
    }

    private static void scan() {
        SelfCheckSteps x = new SelfCheckSteps(0);
        due.is("7: scan(0) idle", x.scan(0), 0);
        x.card(1);
        due.is("7: scan(0) while it asks", x.scan(0), 0);
        x.code(0);
        due.is("7: scan(-1)", x.scan(-1), 0);
        due.is("7: scan(60)", x.scan(60), 0);
        due.is("7: scan(0)", x.scan(0), 1);
        due.is("7: scan(0) again", x.scan(0), 2);
        due.is("7: scan(60)", x.scan(60), 0);
        due.is("7: scan(0) after a wrong one", x.scan(0), 2);
        due.is("7: lend()", x.lend(), 1);
        due.is("7: scan(0) after its lend", x.scan(0), 2);
        due.is("7: lend(), it is not new", x.lend(), -1);
        due.is("7: scan(59)", x.scan(59), 1);
        due.is("7: scan(0)", x.scan(0), 1);
        due.is("7: lend(), it is new", x.lend(), -2);
        x.end(false);
        due.is("7: scan(0) after the end", x.scan(0), 0);
        Due.openSession(x, 1);
        due.is("7: scan(0) in the next session", x.scan(0), 1);
    }

    private static void twice() {
        SelfCheckSteps x = new SelfCheckSteps(0);
        due.is("8: twice() idle", x.twice(), 0);
        x.card(1);
        due.is("8: twice() while it asks", x.twice(), 0);
        x.code(0);
        due.is("8: twice()", x.twice(), 1);
        x.scan(4);
        due.is("8: twice()", x.twice(), 1);
        due.is("8: lend()", x.lend(), -1);
        due.is("8: scan(4)", x.scan(4), 1);
        due.is("8: lend()", x.lend(), 1);
        x.twice();
        x.back(4);
        due.is("8: scan(4) is new", x.scan(4), 1);
        due.is("8: lend()", x.lend(), 2);
        x.scan(5);
        x.end(false);
        Due.openSession(x, 2);
        due.is("8: lend() without a scan in the session", x.lend(), -1);
    }

    private static void offline() {
        SelfCheckSteps x = new SelfCheckSteps(9);
        due.is("12: offline(true)", x.offline(true), false);
        due.is("12: offline(true)", x.offline(true), true);
        due.is("12: offline(false)", x.offline(false), true);
        due.is("12: offline(false)", x.offline(false), false);
        x.card(1);
        x.offline(true);
        due.is("12: code(0), nothing is asked any more", x.code(0), -2);
        due.is("12: screen()", x.screen(), 5);
        Due.openSession(x, 1);
        Due.scanAndLend(x, 7);
        x.offline(false);
        due.is("12: end(true) of an ended session", x.end(true), -1);
        due.is("12: receipt(0), it was not cancelled", x.receipt(0), 7);
        due.is("12: rows()", x.rows(), 1);
        due.is("12: screen()", x.screen(), 0);
        Due.openSession(x, 1);
        Due.scanAndLend(x, 8);
        x.offline(true);
        due.is("12: scan(9)", x.scan(9), 0);
        due.is("12: item(8, 0)", x.item(8, 0), 1);
        Due.openSession(x, 1);
        x.offline(true);
        due.is("12: end(false) after offline(true) of an offline one", x.end(false), -1);
    }

    private static void screen() {
        SelfCheckSteps x = new SelfCheckSteps(0);
        x.person(1, 0, 2);
        x.person(2, 0, 1);
        due.is("19: screen()", x.screen(), 0);
        x.card(1);
        due.is("19: screen()", x.screen(), 21);
        x.code(0);
        due.is("19: screen()", x.screen(), 22);
        x.end(false);
        due.is("19: screen() idle again", x.screen(), 0);
        x.card(3);
        due.is("19: screen()", x.screen(), 1);
        x.code(0);
        due.is("19: screen()", x.screen(), 2);
        x.offline(true);
        due.is("19: screen()", x.screen(), 5);
        x.card(2);
        due.is("19: screen()", x.screen(), 16);
        x.code(0);
        due.is("19: screen()", x.screen(), 17);
        x.offline(false);
        due.is("19: screen()", x.screen(), 0);
    }
}
