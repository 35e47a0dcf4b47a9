import java.util.List;

/** Each call that is refused: what it answers, and that nothing is changed by it. */
public final class RefusedTest {
    private static final Due due = new Due();

    public static void main(String[] args) {
        cards();
        codes();
        scans();
        lendsWithoutAnItem();
        lendsOfItemsThatAreOut();
        lendsOfReservedItems();
        lendsOfBlockedPersons();
        lendsBeyondTen();
        lendsBeyondFiveOffline();
        withoutARow();
        returnsOfItemsThatAreIn();
        ends();
        joinsOffline();
        lockersForItems();
        opens();
        opensThatTheHouseRefuses();
        questions();
        due.finish();
    }

    private static void cards() {
        Stations.unchanged(due, Stations.thatAreNotIdle(), "5: card(2)", x -> x.card(2), 0);
        Stations.unchanged(due, Stations.thatAreNotIdle(), "5: card(6), its own", x -> x.card(6), 0);
        Stations.unchanged(due, Stations.thatAreNotIdle(), "5: card(4), blocked", x -> x.card(4), 0);
        Stations.unchanged(due, List.of(Stations.IDLE), "5: card(4), blocked by codes", x -> x.card(4), -1);
        Twins.unchanged(due, "5: card(3), blocked", Stations.IDLE.online(), x -> x.card(3), -1);
        due.is("5: card(3) offline, not blocked by codes", Stations.IDLE.offline().make().card(3), 1);
    }

    /** A code that nobody asked for is no wrong code either. */
    private static void codes() {
        Stations.unchanged(due, Stations.thatDoNotAsk(), "6: code(0)", x -> x.code(0), -2);
        Stations.unchanged(due, Stations.thatDoNotAsk(), "6: code(7), a wrong one", x -> x.code(7), -2);
    }

    private static void scans() {
        Stations.unchanged(due, Stations.thatAreNotOpen(), "7: scan(11)", x -> x.scan(11), 0);
        Stations.unchanged(due, Stations.thatAreNotOpen(), "8: twice()", x -> x.twice(), 0);
        Stations.unchanged(due, List.of(Stations.OPEN), "8: twice() before a scan", x -> x.twice(), 1);
        for (Twins.Made done : new Twins.Made[] {Stations.DONE.online(), Stations.DONE.offline()}) {
            Twins.unchanged(due, "7: scan(10), scanned latest and done", done, x -> x.scan(10), 2);
        }
        for (Twins.Made scanned : new Twins.Made[] {Stations.SCANNED.online(), Stations.SCANNED.offline()}) {
            Twins.unchanged(due, "7: scan(11), scanned latest", scanned, x -> x.scan(11), 2);
        }
    }

    private static void lendsWithoutAnItem() {
        Stations.unchanged(due, Stations.thatAreNotOpen(), "9: lend()", x -> x.lend(), -8);
        Stations.unchanged(due, List.of(Stations.OPEN), "9: lend(), nothing was scanned", x -> x.lend(), -1);
        Stations.unchanged(due, List.of(Stations.DONE), "9: lend(), it was done", x -> x.lend(), -1);
    }

    private static void lendsOfItemsThatAreOut() {
        refusedLend("9: lend(), out with another", -2, x -> x.scan(20));
        refusedLend("9: lend(), out with the person itself", -2, x -> {
            Due.scanAndLend(x, 30);
            x.scan(31);
            x.scan(30);
        });
        refusedLend("9: lend(), out, and reserved for the person", -2, x -> {
            x.reserve(21, 6);
            x.scan(21);
        });
    }

    private static void lendsOfReservedItems() {
        refusedLend("9: lend(), reserved for another", -3, x -> x.scan(23));
        refusedLend("9: lend(), reserved for another who is blocked", -3, x -> {
            x.reserve(31, 3);
            x.scan(31);
        });
    }

    private static void lendsOfBlockedPersons() {
        refusedLend("9: lend(), blocked meanwhile", -4, x -> {
            x.scan(31);
            x.block(6, true);
        });
        refusedLend("9: lend(), blocked, and the item reserved for the person", -4, x -> {
            x.reserve(31, 6);
            x.scan(31);
            x.block(6, true);
        });
    }

    private static void lendsBeyondTen() {
        refusedLend("9: lend(), it has ten", -5, x -> {
            for (int i = 40; i < 50; i++) {
                Due.scanAndLend(x, i);
            }
            x.scan(50);
        });
    }

    private static void lendsBeyondFiveOffline() {
        Twins.unchanged(due, "9: lend() offline, five", Twins.station(20, x -> {
            Pasts.busyOffline(x);
            Pasts.open(x);
            for (int i = 40; i < 45; i++) {
                Due.scanAndLend(x, i);
            }
            x.scan(45);
        }), x -> x.lend(), -6);
    }

    /** The busy past keeps two rows, so three are full after one more. */
    private static void withoutARow() {
        Twins.Made full = Twins.station(3, x -> {
            Pasts.busyOffline(x);
            Pasts.scanned(x);
        });
        due.is("21: rows()", full.make().rows(), 3);
        Twins.unchanged(due, "9: lend() offline, no row is left", full, x -> x.lend(), -7);
        Twins.unchanged(due, "10: back(10) offline, no row is left", full, x -> x.back(10), -7);
        Twins.unchanged(due, "10: back(11) offline, no row is left", full, x -> x.back(11), -7);
        Twins.unchanged(due, "10: back(60) offline, no row is left", full, x -> x.back(60), -1);
    }

    private static void returnsOfItemsThatAreIn() {
        Twins.unchanged(due, "10: back(30), in", Stations.SCANNED.online(), x -> x.back(30), 2);
        Twins.unchanged(due, "10: back(23), in a locker", Stations.IDLE.online(), x -> x.back(23), 2);
        // Its lend is a row, so that its mark is off though it is in.
        SelfCheckSteps x = Stations.IDLE.online().make();
        due.is("17: door(24)", x.door(24), false);
        due.is("10: back(24), in", x.back(24), 2);
        due.is("17: door(24), its mark is on then, too", x.door(24), true);
        due.is("21: rows(), that was no row", x.rows(), 2);
    }

    private static void ends() {
        Stations.unchanged(due, Stations.thatAreNotOpen(), "11: end(false)", x -> x.end(false), -1);
        Stations.unchanged(due, Stations.thatAreNotOpen(), "11: end(true)", x -> x.end(true), -1);
    }

    private static void joinsOffline() {
        for (Stations state : Stations.values()) {
            for (int rows = -1; rows <= 3; rows++) {
                int many = rows;
                Twins.unchanged(due, "13: join(" + many + ") offline", state.offline(), x -> x.join(many), -1);
            }
        }
    }

    private static void lockersForItems() {
        refuse("15: locker(21), out", x -> x.locker(21), -1);
        refuse("15: locker(20), out and reserved", x -> x.locker(20), -1);
        refuse("15: locker(30), not reserved", x -> x.locker(30), -1);
        refuse("15: locker(23), in a locker", x -> x.locker(23), -1);
        Twins.unchanged(due, "15: locker(58), no locker is empty", Twins.station(9, x -> {
            Pasts.busy(x);
            for (int i = 40; i < 49; i++) {
                x.reserve(i, 2);
                x.locker(i);
            }
            x.reserve(58, 2);
        }), x -> x.locker(58), -1);
    }

    private static void opens() {
        refuse("16: open(1, 0), empty", x -> x.open(1, 0), -1);
        refuse("16: open(9, 0), empty", x -> x.open(9, 0), -1);
        // A wrong code at a locker is none of the card's wrong codes.
        refuse("16: open(0, 1), another code", x -> x.open(0, 1), -1);
        Twins.unchanged(due, "16: open(0, 0), for nobody by now", Twins.station(9, x -> {
            Pasts.busy(x);
            x.reserve(23, -1);
        }), x -> x.open(0, 0), -1);
        Twins.unchanged(due, "16: open(0, 0), for another with code 1 by now", Twins.station(9, x -> {
            Pasts.busy(x);
            x.reserve(23, 2);
        }), x -> x.open(0, 0), -1);
    }

    private static void opensThatTheHouseRefuses() {
        Twins.Made ofBlocked = Twins.station(9, x -> {
            Pasts.busy(x);
            x.reserve(23, 3);
        });
        Twins.unchanged(due, "16: open(0, 0), blocked", ofBlocked, x -> x.open(0, 0), -4);
        Twins.unchanged(due, "16: open(0, 1), blocked and another code", ofBlocked, x -> x.open(0, 1), -1);
        Twins.unchanged(due, "16: open(0, 0), blocked by codes", Twins.station(9, x -> {
            Pasts.busy(x);
            x.reserve(23, 4);
        }), x -> x.open(0, 0), -4);
        Twins.Made ofTen = Twins.station(9, x -> {
            Pasts.busy(x);
            // Two are out with person 5 already.
            Due.lendAll(x, 5, 40, 47);
        });
        Twins.unchanged(due, "16: open(0, 0), it has ten", ofTen, x -> x.open(0, 0), -5);
        Twins.unchanged(due, "16: open(0, 1), it has ten and another code", ofTen, x -> x.open(0, 1), -1);
    }

    /** What only asks changes nothing, also where there is an answer. */
    private static void questions() {
        refuse("14: clash(0, 0)", x -> x.clash(0, 0), 26);
        refuse("17: door(30)", x -> x.door(30) ? 1 : 0, 1);
        refuse("20: item(20, 0)", x -> x.item(20, 0), 5);
        refuse("20: item(20, 1)", x -> x.item(20, 1), 6);
        refuse("20: item(23, 2)", x -> x.item(23, 2), 0);
        Twins.unchanged(due, "19: screen()", Stations.ASKS.offline(), x -> x.screen(), 6);
        Twins.unchanged(due, "18: receipt(0)", Stations.SCANNED.online(), x -> x.receipt(0), 10);
        Twins.unchanged(due, "21: rows()", Stations.SCANNED.offline(), x -> x.rows(), 3);
    }

    /** Online, in a session of person 6. */
    private static void refusedLend(String name, int answer, Twins.Past scan) {
        Twins.unchanged(due, name, Twins.station(9, x -> {
            Pasts.busy(x);
            Pasts.open(x);
            scan.on(x);
        }), x -> x.lend(), answer);
    }

    private static void refuse(String name, Twins.Call call, int answer) {
        Stations.unchanged(due, Stations.all(), name, call, answer);
    }
}
