/** The program under test as a Subject. What a 513th call would answer is free, so no test may make it. */
final class Real implements Subject {
    private static final int MOST_CALLS = 512;

    private final LeasedReferences x = new LeasedReferences();
    private int calls = 0;

    int callsLeft() {
        return MOST_CALLS - calls;
    }

    @Override
    public int answer(String name, int... a) {
        if (callsLeft() == 0) {
            throw new IllegalStateException("the test makes more calls than the document allows");
        }
        calls++;
        return answer(x, name, a);
    }

    static int answer(LeasedReferences x, String name, int... a) {
        switch (name) {
            case "make": return x.make(a[0], a[1]);
            case "link": return bit(x.link(a[0], a[1], a[2], a[3]));
            case "fetch": return bit(x.fetch(a[0], a[1], a[2], a[3]));
            case "drop": return bit(x.drop(a[0], a[1]));
            case "pass": return x.pass(a[0], a[1], a[2], a[3]);
            case "call": return x.call(a[0], a[1], a[2]);
            case "deliver": return x.deliver(a[0]);
            case "lose": return bit(x.lose(a[0]));
            case "copy": return bit(x.copy(a[0]));
            case "tick": return bit(x.tick(a[0]));
            case "collect": return x.collect(a[0]);
            case "crash": return bit(x.crash(a[0]));
            case "flight": return x.flight();
            case "message": return x.message(a[0], a[1]);
            case "root": return x.root(a[0], a[1]);
            case "slot": return x.slot(a[0], a[1], a[2]);
            case "listing": return x.listing(a[0], a[1], a[2]);
            case "pins": return x.pins(a[0]);
            case "outcome": return x.outcome(a[0], a[1]);
            default: throw new IllegalArgumentException(name);
        }
    }

    private static int bit(boolean b) {
        return b ? 1 : 0;
    }
}
