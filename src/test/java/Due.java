/** Compares answers with those that are due, and tells at the end whether all were. */
final class Due {
    private int wrong = 0;
    private int asked = 0;

    void is(String call, int got, int want) {
        asked++;
        if (got != want) {
            wrong++;
            System.out.println(call + " answered " + got + ", due is " + want);
        }
    }

    void is(String call, boolean got, boolean want) {
        is(call, got ? 1 : 0, want ? 1 : 0);
    }

    void finish() {
        System.out.println(asked + " answers, " + wrong + " not as due");
        if (wrong != 0) {
            System.exit(1);
        }
    }

    /** Opens a session of a person whose code is still 0. */
    static void openSession(SelfCheckSteps x, int person) {
        x.card(person);
        x.code(0);
    }

    static int scanAndLend(SelfCheckSteps x, int item) {
        x.scan(item);
        return x.lend();
    }

    /** A whole session in which a person lends the items from first to last. */
    static void lendAll(SelfCheckSteps x, int person, int first, int last) {
        openSession(x, person);
        for (int i = first; i <= last; i++) {
            scanAndLend(x, i);
        }
        x.end(false);
    }

    static void enterWrongCodes(SelfCheckSteps x, int person, int times) {
        for (int i = 0; i < times; i++) {
            x.card(person);
            x.code(999);
        }
    }
}
