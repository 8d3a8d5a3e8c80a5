import java.util.ArrayList;
import java.util.List;

/** All that the reading calls show of a Subject, empty places left out, as a list to be compared. */
final class View {
    private View() {
    }

    static List<String> of(Subject x) {
        List<String> lines = new ArrayList<>();
        int count = x.answer("flight");
        for (int k = 0; k < count; k++) {
            StringBuilder line = new StringBuilder("message ").append(k);
            for (int which = 0; which < 6; which++) {
                line.append(' ').append(x.answer("message", k, which));
            }
            lines.add(line.toString());
        }
        for (int node = 0; node < 4; node++) {
            lines.add(ofNode(x, node));
            for (int k = 0; k < 8; k++) {
                int holds = x.answer("slot", node, k, 0);
                if (holds != 0) {
                    lines.add(ofSlot(x, node, k, holds));
                }
            }
        }
        return lines;
    }

    private static String ofNode(Subject x, int node) {
        StringBuilder line = new StringBuilder("node ").append(node).append(" roots");
        for (int root = 0; root < 3; root++) {
            line.append(' ').append(x.answer("root", node, root));
        }
        line.append(" pins ").append(x.answer("pins", node)).append(" outcome");
        for (int which = 0; which < 3; which++) {
            line.append(' ').append(x.answer("outcome", node, which));
        }
        return line.toString();
    }

    private static String ofSlot(Subject x, int node, int k, int holds) {
        StringBuilder line = new StringBuilder("slot ").append(node).append(' ').append(k).append(": ").append(holds);
        for (int which = 1; which < 5; which++) {
            line.append(' ').append(x.answer("slot", node, k, which));
        }
        if (holds == 1) {
            line.append(" listings");
            for (int client = 0; client < 4; client++) {
                line.append(' ').append(x.answer("listing", node, k, client));
            }
        }
        return line.toString();
    }
}
