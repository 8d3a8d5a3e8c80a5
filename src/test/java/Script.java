import java.util.ArrayList;
import java.util.List;

/**
 * Runs scripts of calls on fresh objects. A line is "name arguments = due answer", perhaps with " x n" behind it
 * (n times) and a comment from # on. Of every call that was refused, and of every reading call, it is also looked at
 * that it changed nothing: by what two fresh objects show, of which one was given that call and the other not.
 */
final class Script {
    private static final int MOST_CALLS = 512;
    private static int wrong = 0;
    private static int scripts = 0;

    private record Call(String name, int[] arguments) {
        @Override
        public String toString() {
            StringBuilder text = new StringBuilder(name);
            for (int a : arguments) {
                text.append(' ').append(a);
            }
            return text.toString();
        }
    }

    private Script() {
    }

    static void run(String title, String... parts) {
        scripts++;
        Subject subject = new Real();
        List<Call> before = new ArrayList<>();
        int calls = 0;
        for (String line : String.join("\n", parts).split("\n")) {
            String text = line.replaceAll("#.*", "").strip();
            if (text.isEmpty()) {
                continue;
            }
            String[] sides = text.split(" = ");
            String[] due = sides[1].strip().split(" x ");
            Call call = parse(sides[0].strip());
            int want = Integer.parseInt(due[0].strip());
            int times = due.length == 1 ? 1 : Integer.parseInt(due[1].strip());
            for (int i = 0; i < times; i++) {
                calls++;
                same(title + ", call " + calls + ": " + call, subject.answer(call.name, call.arguments), want);
                if (Subject.changesNothing(call.name, want)) {
                    lookForChange(title, before, call);
                } else {
                    before.add(call);
                }
            }
        }
        same(title + ": calls beyond the document's limit", Math.max(0, calls - MOST_CALLS), 0);
    }

    static void same(String what, long got, long want) {
        if (got != want) {
            wrong++;
            System.out.println(what + " answered " + got + ", due is " + want);
        }
    }

    static void finish() {
        System.out.println(scripts + " runs, " + wrong + " answers not as due");
        if (wrong != 0) {
            System.exit(1);
        }
    }

    private static Call parse(String text) {
        String[] words = text.split(" +");
        int[] arguments = new int[words.length - 1];
        for (int i = 0; i < arguments.length; i++) {
            arguments[i] = Integer.parseInt(words[i + 1]);
        }
        return new Call(words[0], arguments);
    }

    private static void lookForChange(String title, List<Call> before, Call call) {
        Subject with = replayed(before);
        with.answer(call.name, call.arguments);
        if (!View.of(with).equals(View.of(replayed(before)))) {
            wrong++;
            System.out.println(title + ": " + call + " changed something, and must not");
        }
    }

    private static Subject replayed(List<Call> calls) {
        Subject subject = new Real();
        for (Call call : calls) {
            subject.answer(call.name, call.arguments);
        }
        return subject;
    }
}
