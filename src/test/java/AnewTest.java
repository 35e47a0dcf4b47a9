/** What begins anew: wrong codes, sessions, scans, receipts, joins, modes. */
public final class AnewTest {
    private static final Due due = new Due();

    public static void main(String[] args) {
        threeWrongCodes();
        rightCodes();
        cardsOfOthersBetween();
        cardsWithoutACodeBetween();
        wrongCodesOverModes();
        rightCodesOffline();
        newCodes();
        blocks();
        blocksWhileACodeIsAsked();
        newSession();
        newSessionAfterModes();
        scansOfTheSameItem();
        nextJoin();
        rowsAfterAJoin();
        sameMode();
        modesOfAnIdleStation();
        due.finish();
    }

    private static void threeWrongCodes() {
        SelfCheckSteps x = new SelfCheckSteps(0);
        int[] answers = {0, 0, -1};
        for (int answer : answers) {
            due.is("5: card(1)", x.card(1), 1);
            due.is("6: code(5)", x.code(5), answer);
            due.is("19: screen(), idle again", x.screen(), 0);
            due.is("18: receipt(0)", x.receipt(0), -1);
        }
        due.is("5: card(1)", x.card(1), -1);
        due.is("6: code(0), nothing is asked", x.code(0), -2);
        due.is("3: block(1, true), what it was", x.block(1, true), true);
    }

    private static void rightCodes() {
        for (int wrong = 1; wrong <= 2; wrong++) {
            int many = wrong;
            Twins.alike(due, "6: a right code after " + many, Twins.station(9, x -> {
                Due.enterWrongCodes(x, 1, many);
                Due.openSession(x, 1);
                x.end(false);
            }), Twins.station(9, x -> { }));
            Twins.differ(due, "6: wrong codes " + many, Twins.station(9, x -> Due.enterWrongCodes(x, 1, many)),
                Twins.station(9, x -> { }));
        }
        SelfCheckSteps x = new SelfCheckSteps(0);
        for (int round = 0; round < 3; round++) {
            due.is("6: code(5), the first", wrongCode(x, 1), 0);
            due.is("6: code(5), the second", wrongCode(x, 1), 0);
            Due.openSession(x, 1);
            due.is("11: end(false)", x.end(false), 0);
        }
        wrongCode(x, 1);
        wrongCode(x, 1);
        due.is("6: code(5), the third", wrongCode(x, 1), -1);
    }

    private static void cardsOfOthersBetween() {
        SelfCheckSteps x = new SelfCheckSteps(0);
        wrongCode(x, 1);
        wrongCode(x, 2);
        wrongCode(x, 1);
        wrongCode(x, 2);
        Due.lendAll(x, 3, 3, 3);
        due.is("6: code(5), the third of person 1", wrongCode(x, 1), -1);
        due.is("6: code(5), the third of person 2", wrongCode(x, 2), -1);
        due.is("6: code(5), the first of person 3", wrongCode(x, 3), 0);
    }

    private static void cardsWithoutACodeBetween() {
        SelfCheckSteps x = new SelfCheckSteps(0);
        wrongCode(x, 1);
        wrongCode(x, 1);
        x.card(1);
        x.offline(false);
        due.is("6: code(5), the third", wrongCode(x, 1), -1);
    }

    private static void wrongCodesOverModes() {
        SelfCheckSteps x = new SelfCheckSteps(0);
        wrongCode(x, 1);
        x.offline(true);
        due.is("6: code(5) offline, the second", wrongCode(x, 1), 0);
        x.offline(false);
        due.is("6: code(5), the third", wrongCode(x, 1), -1);
        x.offline(true);
        due.is("5: card(1) offline", x.card(1), -1);
        wrongCode(x, 2);
        wrongCode(x, 2);
        due.is("6: code(5) offline, the third", wrongCode(x, 2), -1);
        x.offline(false);
        due.is("5: card(2)", x.card(2), -1);
        due.is("3: block(2, false)", x.block(2, false), true);
        due.is("5: card(2)", x.card(2), 1);
    }

    private static void rightCodesOffline() {
        Twins.alike(due, "6: a right code offline", Twins.station(9, x -> {
            Due.enterWrongCodes(x, 1, 2);
            x.offline(true);
            Due.openSession(x, 1);
            x.offline(false);
        }), Twins.station(9, x -> { }));
    }

    /** A new code is no right code. */
    private static void newCodes() {
        SelfCheckSteps x = new SelfCheckSteps(0);
        wrongCode(x, 1);
        wrongCode(x, 1);
        x.person(1, 7, 0);
        x.card(1);
        due.is("6: code(0), the code of before, the third", x.code(0), -1);
        x.person(1, 8, 0);
        due.is("5: card(1), still blocked", x.card(1), -1);

        SelfCheckSteps y = new SelfCheckSteps(0);
        y.card(1);
        y.person(1, 7, 0);
        due.is("6: code(7), changed while it is asked", y.code(7), 1);
    }

    private static void blocks() {
        for (int wrong = 1; wrong <= 3; wrong++) {
            int many = wrong;
            Twins.alike(due, "3: block(1, false) after wrong codes " + many, Twins.station(9, x -> {
                Due.enterWrongCodes(x, 1, many);
                due.is("3: block(1, false)", x.block(1, false), many == 3);
            }), Twins.station(9, x -> { }));
            Twins.alike(due, "3: block(1, true) after wrong codes " + many, Twins.station(9, x -> {
                Due.enterWrongCodes(x, 1, many);
                due.is("3: block(1, true)", x.block(1, true), many == 3);
            }), Twins.station(9, x -> x.block(1, true)));
        }
        Twins.alike(due, "3: block(1, true) and block(1, false)", Twins.station(9, x -> {
            x.block(1, true);
            x.block(1, true);
            due.is("3: block(1, false)", x.block(1, false), true);
        }), Twins.station(9, x -> { }));
    }

    private static void blocksWhileACodeIsAsked() {
        SelfCheckSteps x = new SelfCheckSteps(0);
        x.card(1);
        x.block(1, true);
        due.is("6: code(5), not blocked by that", x.code(5), 0);
        due.is("5: card(1)", x.card(1), -1);
        x.block(1, false);
        wrongCode(x, 1);
        wrongCode(x, 1);
        x.card(1);
        x.block(1, false);
        due.is("6: code(5), the first again", x.code(5), 0);
        due.is("6: code(5), the second", wrongCode(x, 1), 0);
        due.is("6: code(5), the third", wrongCode(x, 1), -1);
    }

    private static void newSession() {
        SelfCheckSteps x = new SelfCheckSteps(9);
        Due.openSession(x, 1);
        Due.scanAndLend(x, 3);
        x.scan(4);
        due.is("11: end(false)", x.end(false), 1);
        due.is("18: receipt(0) of the latest session", x.receipt(0), 3);
        x.card(1);
        due.is("18: receipt(0) while a code is asked", x.receipt(0), 3);
        x.code(0);
        due.is("18: receipt(0), a new session has lent nothing", x.receipt(0), -1);
        due.is("9: lend(), nothing was scanned in it", x.lend(), -1);
        due.is("7: scan(4), new in it", x.scan(4), 1);
        due.is("9: lend(), counted from one", x.lend(), 1);
        due.is("18: receipt(0)", x.receipt(0), 4);
        due.is("18: receipt(1)", x.receipt(1), -1);
        due.is("11: end(true), its own latest alone", x.end(true), 0);
        due.is("20: item(3, 0)", x.item(3, 0), 1);
        Due.openSession(x, 1);
        due.is("11: end(true), the session before stays", x.end(true), 0);
        due.is("20: item(3, 0)", x.item(3, 0), 1);
    }

    private static void newSessionAfterModes() {
        SelfCheckSteps x = new SelfCheckSteps(9);
        x.offline(true);
        Due.openSession(x, 1);
        Due.scanAndLend(x, 3);
        x.scan(4);
        x.offline(false);
        due.is("18: receipt(0), not cancelled", x.receipt(0), 3);
        Due.openSession(x, 1);
        due.is("9: lend(), nothing was scanned in it", x.lend(), -1);
        due.is("18: receipt(0)", x.receipt(0), -1);
        due.is("11: end(true)", x.end(true), 0);
        due.is("21: rows(), the row of before stays", x.rows(), 1);
        x.offline(true);
        Due.openSession(x, 1);
        due.is("11: end(true) offline", x.end(true), 0);
        due.is("21: rows(), the row of before stays", x.rows(), 1);
    }

    private static void scansOfTheSameItem() {
        SelfCheckSteps x = new SelfCheckSteps(9);
        Due.openSession(x, 1);
        due.is("7: scan(3)", x.scan(3), 1);
        for (int i = 0; i < 3; i++) {
            due.is("7: scan(3) again", x.scan(3), 2);
        }
        x.twice();
        due.is("7: scan(3) after two at once", x.scan(3), 1);
        due.is("7: scan(3) again", x.scan(3), 2);
        due.is("9: lend()", x.lend(), 1);
        due.is("7: scan(3), not new", x.scan(3), 2);
        due.is("9: lend()", x.lend(), -1);
        x.scan(4);
        due.is("7: scan(3), new", x.scan(3), 1);
        due.is("9: lend(), not done but out", x.lend(), -2);
        x.back(3);
        due.is("9: lend(), not done and in", x.lend(), 2);
        due.is("18: receipt(1)", x.receipt(1), 3);
    }

    private static void nextJoin() {
        SelfCheckSteps x = new SelfCheckSteps(9);
        x.offline(true);
        x.back(1);
        x.back(2);
        Due.lendAll(x, 1, 3, 3);
        x.back(4);
        x.offline(false);
        due.is("13: join(2)", x.join(2), 2);
        due.is("14: clash(1, 0)", x.clash(1, 0), 2);
        due.is("13: join(3), there are not so many", x.join(3), -1);
        due.is("14: clash(1, 0), of the latest join", x.clash(1, 0), 2);
        due.is("13: join(1), counted anew", x.join(1), 0);
        due.is("14: clash(0, 0), it had none", x.clash(0, 0), -1);
        due.is("14: clash(1, 0)", x.clash(1, 0), -1);
        due.is("13: join(1), counted anew", x.join(1), 1);
        due.is("14: clash(0, 0)", x.clash(0, 0), 4);
        due.is("14: clash(1, 0)", x.clash(1, 0), -1);
        due.is("13: join(0), a join of no row", x.join(0), 0);
        due.is("14: clash(0, 0)", x.clash(0, 0), -1);
    }

    /** Rows that were joined leave nothing behind but what they did. */
    private static void rowsAfterAJoin() {
        Twins.alike(due, "13: lends offline and joined, and lends online", Twins.station(4, x -> {
            x.reserve(3, 1);
            x.locker(3);
            x.offline(true);
            Due.lendAll(x, 1, 3, 5);
            x.back(4);
            x.offline(false);
            due.is("13: join(4)", x.join(4), 0);
        }), Twins.station(4, x -> {
            x.reserve(3, 1);
            x.locker(3);
            Due.lendAll(x, 1, 3, 5);
            x.back(4);
        }));
    }

    private static void sameMode() {
        for (boolean offline : new boolean[] {false, true}) {
            SelfCheckSteps x = new SelfCheckSteps(9);
            x.offline(offline);
            x.card(1);
            due.is("12: offline(" + offline + ")", x.offline(offline), offline);
            due.is("6: code(0), not asked any more", x.code(0), -2);
            Due.openSession(x, 1);
            Due.scanAndLend(x, 3);
            due.is("12: offline(" + offline + ")", x.offline(offline), offline);
            due.is("11: end(true), it has ended", x.end(true), -1);
            due.is("18: receipt(0), not cancelled", x.receipt(0), 3);
            due.is("17: door(3)", x.door(3), false);
        }
    }

    private static void modesOfAnIdleStation() {
        Twins.Made online = Stations.IDLE.online();
        Twins.Made offline = Stations.IDLE.offline();
        Twins.unchanged(due, "12: offline(false) of an idle one", online, x -> x.offline(false) ? 1 : 0, 0);
        Twins.unchanged(due, "12: offline(true) of an idle one", offline, x -> x.offline(true) ? 1 : 0, 1);
        Twins.unchanged(due, "12: there and back", online, x -> !x.offline(true) && x.offline(false) ? 1 : 0, 1);
        Twins.alike(due, "12: offline(true) ends as end(false) does", Twins.station(9, x -> {
            Pasts.busy(x);
            Pasts.scanned(x);
            x.offline(true);
        }), Twins.station(9, x -> {
            Pasts.busy(x);
            Pasts.scanned(x);
            x.end(false);
            x.offline(true);
        }));
    }

    private static int wrongCode(SelfCheckSteps x, int person) {
        x.card(person);
        return x.code(5);
    }
}
