import java.util.List;

/**
 * What a run of calls leaves behind: takes reading calls alone, and answers them on as many fresh objects as it takes
 * to keep each of them within the calls that the document allows.
 */
final class Behind implements Subject {
    private final List<Call> before;
    private Real subject;

    Behind(List<Call> calls) {
        before = List.copyOf(calls);
        subject = after(before);
    }

    static Real after(List<Call> calls) {
        Real subject = new Real();
        for (Call call : calls) {
            subject.answer(call);
        }
        return subject;
    }

    @Override
    public int answer(String name, int... a) {
        if (!READING.contains(name)) {
            throw new IllegalArgumentException(name + " does not read");
        }
        if (subject.callsLeft() == 0) {
            subject = after(before);
        }
        return subject.answer(name, a);
    }
}
