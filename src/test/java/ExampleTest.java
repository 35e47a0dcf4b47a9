/** The example of README.md, with the answers that it tells. */
public final class ExampleTest {
    public static void main(String[] args) {
        Due due = new Due();
        SelfCheckSteps station = new SelfCheckSteps(20);
        due.is("person(1, 1234, 2)", station.person(1, 1234, 2), 1);
        due.is("card(1)", station.card(1), 1);
        due.is("code(1234)", station.code(1234), 1);
        due.is("scan(5)", station.scan(5), 1);
        due.is("lend()", station.lend(), 1);
        due.is("door(5)", station.door(5), false);
        due.is("end(false)", station.end(false), 1);
        due.is("receipt(0)", station.receipt(0), 5);

        due.is("offline(true)", station.offline(true), false);
        due.is("back(5)", station.back(5), 0);
        due.is("back(6)", station.back(6), 0);
        due.is("offline(false)", station.offline(false), true);
        due.is("join(2)", station.join(2), 1);
        due.is("clash(0, 0)", station.clash(0, 0), 6);

        due.is("reserve(5, 1)", station.reserve(5, 1), 1);
        due.is("locker(5)", station.locker(5), 0);
        due.is("open(0, 1234)", station.open(0, 1234), 5);
        due.is("item(5, 0)", station.item(5, 0), 1);
        due.finish();
    }
}
