import java.util.ArrayList;
import java.util.List;

/**
 * Runs scripts of calls on fresh objects. A line is "name arguments = due answer", perhaps with " x n" behind it
 * (n times) and a comment from # on. PlainModel must answer as due, too. Of every call that was refused, and of every
 * reading call, it is also looked at that it changed nothing, and of every message that was dropped that it changed
 * no more than one that was lost: by what Futures tells of fresh objects with and without it.
 */
final class Script {
    private static int wrong = 0;
    private static int scripts = 0;

    private final String title;
    private final Subject real = new Real();
    private final Subject model = new PlainModel();
    private final List<Call> before = new ArrayList<>();
    private List<String> told = null;
    private int calls = 0;

    private Script(String name) {
        title = name;
    }

    static void run(String title, String... parts) {
        scripts++;
        Script script = new Script(title);
        for (String line : String.join("\n", parts).split("\n")) {
            String text = line.replaceAll("#.*", "").strip();
            if (!text.isEmpty()) {
                script.line(text);
            }
        }
    }

    /** A script for a sentence of the document, which the title quotes word for word. */
    static void edge(String sentence, String... parts) {
        Document.quote(sentence);
        run(sentence, parts);
    }

    static void same(String what, long got, long want) {
        if (got != want) {
            fault(what + " answered " + got + ", due is " + want);
        }
    }

    static void fault(String what) {
        wrong++;
        System.out.println(what);
    }

    static void finish() {
        System.out.println(scripts + " runs, " + wrong + " answers not as due");
        if (wrong != 0) {
            System.exit(1);
        }
    }

    private void line(String text) {
        String[] sides = text.split(" = ");
        String[] due = sides[1].strip().split(" x ");
        int want = Integer.parseInt(due[0].strip());
        int times = due.length == 1 ? 1 : Integer.parseInt(due[1].strip());
        for (int i = 0; i < times; i++) {
            step(Call.parse(sides[0]), want);
        }
    }

    private void step(Call call, int want) {
        calls++;
        String what = title + ", call " + calls + ": " + call;
        same(what, real.answer(call), want);
        same("the model: " + what, model.answer(call), want);
        if (Subject.changesNothing(call.name(), want)) {
            compare(what + " changed something, and must not", followed(call), told());
            return;
        }
        if (call.name().equals("deliver") && want == 0) {
            List<String> lost = Futures.of(followed(new Call("lose", call.arguments())));
            compare(what + " changed something, and must drop the message", followed(call), lost);
        }
        before.add(call);
        told = null;
    }

    private List<Call> followed(Call call) {
        List<Call> more = new ArrayList<>(before);
        more.add(call);
        return more;
    }

    private List<String> told() {
        if (told == null) {
            told = Futures.of(before);
        }
        return told;
    }

    private static void compare(String fault, List<Call> calls, List<String> want) {
        if (!Futures.of(calls).equals(want)) {
            fault(fault);
        }
    }
}
