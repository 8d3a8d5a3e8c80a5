import java.util.Set;

/** Something that takes the calls of the document by name; a boolean answer counts 1 or 0. */
interface Subject {
    Set<String> READING = Set.of("flight", "message", "root", "slot", "listing", "pins", "outcome");
    Set<String> YES_OR_NO = Set.of("link", "fetch", "drop", "lose", "copy", "tick", "crash");

    int answer(String name, int... a);

    default int answer(Call call) {
        return answer(call.name(), call.arguments());
    }

    /** What a call answers that is refused, but for STALE. */
    static int refusal(String name) {
        return YES_OR_NO.contains(name) ? 0 : -1;
    }

    /** Whether a call that answers so must have changed nothing. */
    static boolean changesNothing(String name, int answer) {
        return READING.contains(name) || (YES_OR_NO.contains(name) ? answer == 0 : answer < 0);
    }
}
