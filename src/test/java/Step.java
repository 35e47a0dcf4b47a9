/** One call with its arguments; those that the call does not take are 0, a boolean is 1 or 0. */
record Step(String name, int a, int b, int c) {
    /** The answer of the class; a boolean counts 1 or 0. */
    int on(SelfCheckSteps x) {
        switch (name) {
            case "person": return x.person(a, b, c);
            case "block": return x.block(a, b == 1) ? 1 : 0;
            case "reserve": return x.reserve(a, b);
            case "card": return x.card(a);
            case "code": return x.code(a);
            case "scan": return x.scan(a);
            case "twice": return x.twice();
            case "lend": return x.lend();
            case "back": return x.back(a);
            case "end": return x.end(a == 1);
            default: return onTheRest(x);
        }
    }

    @Override
    public String toString() {
        return name + "(" + a + ", " + b + ", " + c + ")";
    }

    private int onTheRest(SelfCheckSteps x) {
        switch (name) {
            case "offline": return x.offline(a == 1) ? 1 : 0;
            case "join": return x.join(a);
            case "clash": return x.clash(a, b);
            case "locker": return x.locker(a);
            case "open": return x.open(a, b);
            case "door": return x.door(a) ? 1 : 0;
            case "receipt": return x.receipt(a);
            case "screen": return x.screen();
            case "item": return x.item(a, b);
            case "rows": return x.rows();
            default: throw new IllegalStateException(name);
        }
    }
}
