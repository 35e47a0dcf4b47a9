/** Pasts of a station that many tests begin with; codes are 0 or 1, which AnyCalls enters too. */
final class Pasts {
    private Pasts() {
    }

    /**
     * Person 2 has code 1; person 3 is blocked by the house, person 4 by codes, person 1 has two
     * wrong codes; items 20 and 21 are out with person 5, 20 is reserved for 6; item 23 is in
     * locker 0 for person 5; the latest join had the return of item 26 as its clash; the lends
     * of items 24 and 22 by person 7 are rows.
     */
    static void busy(SelfCheckSteps x) {
        x.person(2, 1, 2);
        x.block(3, true);
        Due.enterWrongCodes(x, 4, 3);
        Due.enterWrongCodes(x, 1, 2);
        Due.lendAll(x, 5, 20, 22);
        x.back(22);
        x.reserve(20, 6);
        x.reserve(23, 5);
        x.locker(23);
        x.offline(true);
        x.back(26);
        Due.lendAll(x, 7, 24, 24);
        Due.lendAll(x, 7, 22, 22);
        x.offline(false);
        x.join(1);
    }

    static void busyOffline(SelfCheckSteps x) {
        busy(x);
        x.offline(true);
    }

    static void asks(SelfCheckSteps x) {
        x.card(6);
    }

    static void open(SelfCheckSteps x) {
        Due.openSession(x, 6);
    }

    /** Item 10 is lent and done. */
    static void done(SelfCheckSteps x) {
        open(x);
        Due.scanAndLend(x, 10);
    }

    /** Item 10 is lent, item 11 is scanned latest. */
    static void scanned(SelfCheckSteps x) {
        done(x);
        x.scan(11);
    }
}
