/**
 * Two objects are alike if they tell the same of themselves and answer the same calls alike
 * from then on: so what no single call shows (codes, wrong codes, blocks, the latest scan) is
 * compared too.
 */
final class Twins {
    private static final int FUTURES = 24;
    private static final int CALLS = 160;

    interface Made {
        SelfCheckSteps make();
    }

    interface Past {
        void on(SelfCheckSteps x);
    }

    interface Call {
        int on(SelfCheckSteps x);
    }

    private Twins() {
    }

    static void alike(Due due, String name, Made one, Made other) {
        due.is(name + ": alike", areAlike(one, other), true);
    }

    static void differ(Due due, String name, Made one, Made other) {
        due.is(name + ": alike", areAlike(one, other), false);
    }

    /** The call has this answer, and an object with it is like one without it. */
    static void unchanged(Due due, String name, Made made, Call call, int answer) {
        SelfCheckSteps x = made.make();
        due.is(name, call.on(x), answer);
        alike(due, name, made, () -> {
            SelfCheckSteps y = made.make();
            call.on(y);
            return y;
        });
    }

    static Made station(int rows, Past past) {
        return () -> {
            SelfCheckSteps x = new SelfCheckSteps(rows);
            past.on(x);
            return x;
        };
    }

    /** All that an object tells of itself. */
    static String told(SelfCheckSteps x) {
        StringBuilder text = new StringBuilder();
        text.append(x.screen()).append(' ').append(x.rows());
        for (int i = 0; i < 60; i++) {
            text.append(x.door(i) ? " on" : " off");
            for (int what = 0; what < 3; what++) {
                text.append(' ').append(x.item(i, what));
            }
        }
        for (int i = 0; i < 100; i++) {
            text.append(' ').append(x.receipt(i));
            for (int what = 0; what < 3; what++) {
                text.append(' ').append(x.clash(i, what));
            }
        }
        return text.toString();
    }

    private static String toldOfSession(SelfCheckSteps x) {
        StringBuilder text = new StringBuilder();
        text.append(x.code(0)).append(' ').append(x.lend()).append(' ').append(x.end(true));
        return text.append(' ').append(told(x)).toString();
    }

    /** Of each person the code, if it is 0 or 1, how many wrong codes are left, and the block. */
    private static String toldOfPersons(SelfCheckSteps x) {
        StringBuilder text = new StringBuilder();
        x.offline(true);
        for (int person = 0; person < 40; person++) {
            for (int wrong = 0; wrong < 3; wrong++) {
                text.append(' ').append(x.card(person)).append(' ').append(x.code(999999));
            }
        }
        x.offline(false);
        for (int person = 0; person < 40; person++) {
            text.append(x.block(person, false) ? " blocked" : " free");
            for (int code = 0; code < 2; code++) {
                text.append(' ').append(x.card(person)).append(' ').append(x.code(code));
                text.append(' ').append(x.end(false));
            }
        }
        return text.toString();
    }

    private static String toldOfRows(SelfCheckSteps x) {
        StringBuilder text = new StringBuilder();
        text.append(x.offline(false)).append(' ').append(x.join(x.rows())).append(told(x));
        x.offline(true);
        for (int i = 0; i <= 100; i++) {
            text.append(' ').append(x.back(0));
        }
        return text.toString();
    }

    private static boolean areAlike(Made one, Made other) {
        if (!told(one.make()).equals(told(other.make()))
                || !toldOfSession(one.make()).equals(toldOfSession(other.make()))
                || !toldOfPersons(one.make()).equals(toldOfPersons(other.make()))
                || !toldOfRows(one.make()).equals(toldOfRows(other.make()))) {
            return false;
        }
        for (int future = 0; future < FUTURES; future++) {
            // Some futures stay among few persons and items, some go through all of them.
            int persons = future % 3 == 0 ? 40 : 8;
            int items = future % 3 == 1 ? 60 : 12;
            if (!goOnAlike(one.make(), other.make(), new AnyCalls(future, persons, items),
                    new AnyCalls(future, persons, items))) {
                return false;
            }
        }
        return true;
    }

    private static boolean goOnAlike(SelfCheckSteps one, SelfCheckSteps other, AnyCalls ofOne, AnyCalls ofOther) {
        for (int i = 0; i < CALLS; i++) {
            if (ofOne.call(one) != ofOther.call(other)) {
                return false;
            }
        }
        return told(one).equals(told(other));
    }
}
