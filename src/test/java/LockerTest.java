/** Promises 15 and 16: items are put into lockers and taken out of them. */
public final class LockerTest {
    private static final Due due = new Due();

    public static void main(String[] args) {
        locker();
        allLockers();
        open();
        openOfAChangedReservation();
        openThatIsRefused();
        lendOutOfALocker();
        returnOfAnItemInALocker();
        lockersOffline();
        due.finish();
    }

    private static void locker() {
        SelfCheckSteps x = new SelfCheckSteps(0);
        due.is("15: locker(-1)", x.locker(-1), -1);
        due.is("15: locker(60)", x.locker(60), -1);
        due.is("15: locker(3), not reserved", x.locker(3), -1);
        x.reserve(3, 0);
        due.is("15: locker(3)", x.locker(3), 0);
        due.is("15: item(3, 2)", x.item(3, 2), 0);
        due.is("15: item(3, 0), it is still in", x.item(3, 0), -1);
        due.is("15: item(3, 1)", x.item(3, 1), 0);
        due.is("15: door(3)", x.door(3), true);
        due.is("15: locker(3), in a locker", x.locker(3), -1);
        due.is("15: item(3, 2)", x.item(3, 2), 0);
        Due.lendAll(x, 1, 4, 4);
        x.reserve(4, 2);
        due.is("15: locker(4), it is out", x.locker(4), -1);
        x.back(4);
        due.is("15: locker(4)", x.locker(4), 1);
    }

    private static void allLockers() {
        SelfCheckSteps x = new SelfCheckSteps(0);
        for (int i = 0; i <= 10; i++) {
            x.reserve(50 - i, i);
            due.is("15: locker(" + (50 - i) + ")", x.locker(50 - i), i < 10 ? i : -1);
        }
        due.is("15: item(40, 2)", x.item(40, 2), -1);
        x.open(7, 0);
        x.open(4, 0);
        due.is("15: locker(40), the first empty one", x.locker(40), 4);
        x.reserve(1, 1);
        due.is("15: locker(1)", x.locker(1), 7);
        due.is("15: item(1, 2)", x.item(1, 2), 7);
    }

    private static void open() {
        SelfCheckSteps x = new SelfCheckSteps(0);
        x.person(6, 66, 0);
        x.reserve(30, 6);
        x.locker(30);
        due.is("16: open(-1, 66)", x.open(-1, 66), -1);
        due.is("16: open(10, 66)", x.open(10, 66), -1);
        due.is("16: open(9, 0), empty", x.open(9, 0), -1);
        for (int i = 0; i < 4; i++) {
            due.is("16: open(0, 0), another code", x.open(0, 0), -1);
        }
        due.is("16: item(30, 2)", x.item(30, 2), 0);
        due.is("16: open(0, 66), wrong codes at a locker block nobody", x.open(0, 66), 30);
        due.is("16: item(30, 0)", x.item(30, 0), 6);
        due.is("16: item(30, 1)", x.item(30, 1), -1);
        due.is("16: item(30, 2)", x.item(30, 2), -1);
        due.is("16: door(30)", x.door(30), false);
        due.is("16: open(0, 66), empty", x.open(0, 66), -1);
        due.is("16: back(30)", x.back(30), 0);
    }

    private static void openOfAChangedReservation() {
        SelfCheckSteps x = new SelfCheckSteps(0);
        x.person(6, 66, 0);
        x.person(7, 77, 0);
        x.reserve(30, 6);
        x.locker(30);
        x.reserve(30, -1);
        due.is("16: open(0, 66), reserved for nobody", x.open(0, 66), -1);
        due.is("16: open(0, 0), reserved for nobody", x.open(0, 0), -1);
        due.is("16: item(30, 2), it lies there still", x.item(30, 2), 0);
        x.reserve(30, 7);
        due.is("16: open(0, 66)", x.open(0, 66), -1);
        x.person(7, 78, 0);
        due.is("16: open(0, 77)", x.open(0, 77), -1);
        due.is("16: open(0, 78)", x.open(0, 78), 30);
        due.is("16: item(30, 0)", x.item(30, 0), 7);
    }

    private static void openThatIsRefused() {
        SelfCheckSteps x = new SelfCheckSteps(0);
        Due.lendAll(x, 1, 0, 9);
        x.reserve(20, 1);
        x.locker(20);
        due.is("16: open(0, 0), it has ten", x.open(0, 0), -5);
        x.block(1, true);
        due.is("16: open(0, 0), blocked before ten", x.open(0, 0), -4);
        due.is("16: open(0, 5), the code before blocked", x.open(0, 5), -1);
        due.is("16: item(20, 2)", x.item(20, 2), 0);
        due.is("16: item(20, 1)", x.item(20, 1), 1);
        due.is("16: door(20)", x.door(20), true);
        x.block(1, false);
        Due.enterWrongCodes(x, 1, 3);
        due.is("16: open(0, 0), blocked by codes", x.open(0, 0), -4);
        x.block(1, false);
        x.back(0);
        due.is("16: open(0, 0), it has nine", x.open(0, 0), 20);
    }

    private static void lendOutOfALocker() {
        SelfCheckSteps x = new SelfCheckSteps(0);
        x.reserve(20, 1);
        x.locker(20);
        Due.lendAll(x, 1, 20, 20);
        due.is("15: item(20, 0)", x.item(20, 0), 1);
        due.is("15: item(20, 2), an item that is out lies in no locker", x.item(20, 2), -1);
        due.is("16: open(0, 0)", x.open(0, 0), -1);
        x.reserve(21, 2);
        due.is("15: locker(21)", x.locker(21), 0);
    }

    private static void returnOfAnItemInALocker() {
        SelfCheckSteps x = new SelfCheckSteps(0);
        x.reserve(20, 1);
        x.locker(20);
        due.is("10: back(20) of an item in a locker", x.back(20), 2);
        due.is("15: item(20, 2)", x.item(20, 2), 0);
        due.is("16: open(0, 0)", x.open(0, 0), 20);
    }

    private static void lockersOffline() {
        SelfCheckSteps x = new SelfCheckSteps(9);
        x.reserve(20, 1);
        x.offline(true);
        due.is("15: locker(20) offline", x.locker(20), 0);
        due.is("16: open(0, 0) offline", x.open(0, 0), 20);
        due.is("16: item(20, 0)", x.item(20, 0), 1);
        due.is("16: rows(), lockers are no rows", x.rows(), 0);
    }
}
