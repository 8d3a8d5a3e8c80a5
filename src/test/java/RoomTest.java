import com.sun.management.ThreadMXBean;
import java.lang.management.ManagementFactory;
import java.lang.reflect.Array;
import java.lang.reflect.Field;
import java.lang.reflect.Modifier;
import java.util.ArrayDeque;
import java.util.ArrayList;
import java.util.Collections;
import java.util.Deque;
import java.util.IdentityHashMap;
import java.util.List;
import java.util.Set;
import java.util.TreeSet;

/**
 * Rule 12 of LANGUAGE.md: what a run makes is counted. The constructor makes some 240 objects and arrays, README.md
 * says so, and no later call makes one.
 */
public final class RoomTest {
    private static final int MOST_OBJECTS = 300;
    private static final int MOST_FIELDS_AND_ELEMENTS = 1500;
    private static final int MOST_CALLS = 512;
    private static final int MEASURED_RUNS = 20;

    private final Set<Object> objects = Collections.newSetFromMap(new IdentityHashMap<>());
    private int parts = 0;

    public static void main(String[] args) throws IllegalAccessException {
        whatIsMade();
        whatCallsMake();
        Script.finish();
    }

    private static void whatIsMade() throws IllegalAccessException {
        LeasedReferences x = new LeasedReferences();
        RoomTest before = new RoomTest();
        before.walk(x);
        System.out.println(before.objects.size() + " objects and arrays, " + before.parts + " fields and elements");
        if (before.objects.size() > MOST_OBJECTS || before.parts > MOST_FIELDS_AND_ELEMENTS) {
            Script.fault("the constructor makes too much");
        }
        TreeSet<Integer> kinds = new TreeSet<>();
        for (Call call : busyRun()) {
            if (call.name().equals("deliver")) {
                kinds.add(x.message(call.arguments()[0], 0));
            }
            Real.answer(x, call.name(), call.arguments());
        }
        if (!kinds.equals(new TreeSet<>(List.of(0, 1, 2, 3, 4, 5, 6, 7, 8)))) {
            Script.fault("messages came of the kinds " + kinds + " alone: the run is too poor");
        }
        RoomTest after = new RoomTest();
        after.walk(x);
        Script.same("after many calls, the objects", after.objects.size(), before.objects.size());
        if (!before.objects.containsAll(after.objects)) {
            Script.fault("calls made objects that are kept");
        }
    }

    private void walk(Object start) throws IllegalAccessException {
        Deque<Object> open = new ArrayDeque<>();
        open.add(start);
        while (!open.isEmpty()) {
            Object next = open.remove();
            if (objects.add(next)) {
                open.addAll(next.getClass().isArray() ? elements(next) : fields(next));
            }
        }
    }

    private List<Object> elements(Object array) {
        List<Object> found = new ArrayList<>();
        parts += Array.getLength(array);
        for (int i = 0; i < Array.getLength(array); i++) {
            Object element = Array.get(array, i);
            if (!array.getClass().getComponentType().isPrimitive() && element != null) {
                found.add(element);
            }
        }
        return found;
    }

    private List<Object> fields(Object object) throws IllegalAccessException {
        List<Object> found = new ArrayList<>();
        for (Field field : object.getClass().getDeclaredFields()) {
            if (Modifier.isStatic(field.getModifiers())) {
                continue;
            }
            parts++;
            field.setAccessible(true);
            Object held = field.get(object);
            if (!field.getType().isPrimitive() && held != null) {
                found.add(held);
            }
        }
        return found;
    }

    private static void whatCallsMake() {
        Call[] run = busyRun().toArray(new Call[0]);
        long bytes = leastBytes(run) - leastBytes(new Call[0]);
        System.out.println(run.length + " calls made " + bytes + " bytes");
        if (bytes > 0) {
            Script.fault("some of the calls make objects");
        }
    }

    /** The least of several runs, since the first ones load classes. */
    private static long leastBytes(Call[] run) {
        ThreadMXBean bean = (ThreadMXBean) ManagementFactory.getThreadMXBean();
        long thread = Thread.currentThread().getId();
        long least = Long.MAX_VALUE;
        for (int i = 0; i < MEASURED_RUNS; i++) {
            LeasedReferences x = new LeasedReferences();
            long before = bean.getThreadAllocatedBytes(thread);
            for (Call call : run) {
                Real.answer(x, call.name(), call.arguments());
            }
            least = Math.min(least, bean.getThreadAllocatedBytes(thread) - before);
        }
        return least;
    }

    /** Every call of the face, and messages of every kind. */
    private static List<Call> busyRun() {
        String taken = "make 0 0; make 0 1; link 0 0 0 1; fetch 0 0 0 2; pass 0 0 1 0; copy 0; deliver 0; deliver 0;"
            + "deliver 0; deliver 0; deliver 0; call 1 0 5; tick 6; deliver 0; deliver 0; deliver 0; lose 0;"
            + "deliver 0; deliver 0; flight; message 0 0; root 0 0; slot 0 0 1; slot 1 0 3; listing 0 0 1; pins 0;"
            + "outcome 1 2; drop 1 0; collect 1; deliver 0; deliver 0; drop 0 0; drop 0 1; drop 0 2; collect 0;";
        String gone = "make 2 0; pass 2 0 3 0; drop 2 0; tick 12; tick 12; collect 2; deliver 0; deliver 0; deliver 0;"
            + "drop 3 0; collect 3; lose 0;";
        String noObject = "make 2 0; pass 2 0 3 0; deliver 0; deliver 0; deliver 0; deliver 0; drop 2 0; tick 12;"
            + "tick 11; call 3 0 1; tick 1; collect 2; deliver 3; deliver 3; lose 0; lose 0; lose 0; drop 3 0;"
            + "collect 3; lose 0";
        String[] lines = (taken + gone + noObject).split(";");
        List<Call> run = new ArrayList<>();
        while (run.size() + lines.length < MOST_CALLS) {
            for (String line : lines) {
                run.add(Call.parse(line));
            }
        }
        run.add(new Call("crash", 3));
        return run;
    }
}
