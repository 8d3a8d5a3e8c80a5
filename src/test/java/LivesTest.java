import java.util.ArrayList;
import java.util.List;

/**
 * "An object is used for at most 512 calls after it has been made": lives that come to the 512th call, each with
 * another count (serials, ids, numbers of calls, DIRTYs and the clock) driven as far as the calls allow, and lives of
 * several objects side by side, which must not know of one another.
 */
public final class LivesTest {
    private static final int MOST_CALLS = 512;

    private final String title;
    private final Real subject = new Real();
    private final List<Call> calls = new ArrayList<>();
    private final List<Integer> answers = new ArrayList<>();

    private LivesTest(String name) {
        title = name;
    }

    public static void main(String[] args) {
        List<LivesTest> lives = List.of(serials(), ids(), numbersOfCalls(), numbersOfDirties(), clock(), fullFlight());
        for (LivesTest life : lives) {
            Script.same(title(life) + " has calls", life.calls.size(), MOST_CALLS);
        }
        sideBySide(lives);
        System.out.println(lives.size() + " lives of " + MOST_CALLS + " calls");
        Script.finish();
    }

    private static String title(LivesTest life) {
        return "a life of many " + life.title;
    }

    private void due(int want, String name, int... a) {
        Call call = new Call(name, a);
        int got = subject.answer(call);
        calls.add(call);
        answers.add(got);
        Script.same(title(this) + ", call " + calls.size() + ": " + call, got, want);
    }

    private int left() {
        return MOST_CALLS - calls.size();
    }

    /** Object 0 of node 0 and a GOOD surrogate of it at node 1, both in root 0. */
    private void good() {
        due(0, "make", 0, 0);
        due(0, "pass", 0, 0, 1, 0);
        for (int i = 0; i < 4; i++) {
            due(1, "deliver", 0);
        }
    }

    private static LivesTest serials() {
        LivesTest life = new LivesTest("serials");
        for (int serial = 0; life.left() >= 2; serial++) {
            life.due(serial, "make", serial % 4, 1);
            life.due(serial < 4 ? 0 : 1, "collect", serial % 4);
        }
        return life;
    }

    private static LivesTest ids() {
        LivesTest life = new LivesTest("ids");
        life.due(0, "make", 3, 0);
        int id = 0;
        while (life.left() > 8) {
            for (int i = 0; i < 6; i++) {
                life.due(id, "pass", 3, 0, id % 3, 0);
                id++;
            }
            life.due(1, "tick", 12);
            life.due(1, "tick", 12);
        }
        life.due(id, "pass", 3, 0, 0, 0);
        life.due(1, "pins", 3);
        life.due(32, "flight");
        life.due(31, "message", 31, 4);     // those behind the 32nd are lost
        while (life.left() > 0) {
            id++;
            life.due(id, "pass", 3, 0, 0, 0);
        }
        return life;
    }

    private static LivesTest numbersOfCalls() {
        LivesTest life = new LivesTest("calls");
        life.good();
        int number = 0;
        int value = 0;
        while (life.left() >= 5) {
            number++;
            value += 1000000007;
            life.due(number, "call", 1, 0, 1000000007);
            life.due(1, "deliver", 0);
            life.due(1, "deliver", 0);
        }
        life.due(2, "outcome", 1, 0);
        life.due(number, "outcome", 1, 1);
        while (life.left() > 0) {
            life.due(value, "outcome", 1, 2);
        }
        return life;
    }

    private static LivesTest numbersOfDirties() {
        LivesTest life = new LivesTest("DIRTYs");
        life.good();
        int expiry = 24;
        while (life.left() >= 5) {
            expiry += 6;
            life.due(1, "tick", 6);
            life.due(1, "deliver", 0);
            life.due(1, "deliver", 0);
        }
        life.due(expiry, "slot", 1, 0, 3);
        life.due(24, "listing", 0, 0, 1);
        while (life.left() > 0) {
            life.due(1, "slot", 1, 0, 2);
        }
        return life;
    }

    private static LivesTest clock() {
        LivesTest life = new LivesTest("ticks");
        life.due(0, "make", 2, 2);
        int clock = 0;
        while (life.left() > 3) {
            life.due(1, "tick", 12);
            clock += 12;
        }
        life.due(0, "pass", 2, 2, 0, 1);
        life.due(1, "deliver", 0);
        life.due(clock + 24, "slot", 0, 0, 3);
        return life;
    }

    /** The flight stays full: each DIRTY and CALL that a tick sends is lost, until the surrogate is STALE. */
    private static LivesTest fullFlight() {
        LivesTest life = new LivesTest("messages that are lost");
        life.good();
        life.due(1, "call", 1, 0, 5);
        for (int i = 0; i < 31; i++) {
            life.due(1, "copy", 0);
        }
        while (life.left() >= 4) {
            life.due(1, "tick", 1);
            life.due(0, "copy", 0);
            life.due(32, "flight");
            life.due(6, "message", 31, 0);
        }
        while (life.left() > 0) {
            life.due(3, "outcome", 1, 0);
        }
        return life;
    }

    /** Call by call in turn on objects that live at the same time: each answers as it did alone. */
    private static void sideBySide(List<LivesTest> lives) {
        List<Real> subjects = new ArrayList<>();
        for (int i = 0; i < lives.size(); i++) {
            subjects.add(new Real());
        }
        for (int n = 0; n < MOST_CALLS; n++) {
            for (int i = 0; i < lives.size(); i++) {
                LivesTest life = lives.get(i);
                Call call = life.calls.get(n);
                Script.same("beside others, " + title(life) + ", call " + (n + 1) + ": " + call,
                    subjects.get(i).answer(call), life.answers.get(n));
            }
        }
    }
}
