/** Promises 1 to 5 and 16: a new object, make, link, fetch, drop, root. */
public final class MakingTest {
    public static void main(String[] args) {
        newObject();
        make();
        link();
        fetch();
        dropAndRoot();
        Script.finish();
    }

    private static void newObject() {
        StringBuilder script = new StringBuilder("flight = 0\nmessage 0 0 = -1\n");
        for (int node = 0; node < 4; node++) {
            for (int k = 0; k < 8; k++) {
                script.append("slot " + node + " " + k + " 0 = 0\n");
                script.append("listing " + node + " " + k + " " + (node + 1) % 4 + " = -1\n");
            }
            for (int i = 0; i < 3; i++) {
                script.append("root " + node + " " + i + " = -1\n");
                script.append("outcome " + node + " " + i + " = 0\n");
            }
            script.append("pins " + node + " = 0\n");
        }
        Script.run("a new object is empty", script.toString());
        Script.run("the clock of a new object is 0", Start.PENDING, "slot 1 0 3 = 24\nmessage 0 5 = 0");
        Script.run("objects do not share anything", Start.GOOD);
        Script.run("another new object starts anew", "flight = 0\nslot 0 0 0 = 0\nmake 3 1 = 0");
    }

    private static void make() {
        Script.run("make counts over all nodes and takes the least empty slot", """
            make 0 0 = 0
            make 2 1 = 1
            make 0 1 = 2
            make 0 2 = 3
            slot 0 0 0 = 1
            slot 0 0 1 = 0
            slot 0 1 1 = 2
            slot 0 2 1 = 3
            slot 2 0 1 = 1
            root 0 0 = 0
            root 0 1 = 1
            root 0 2 = 2
            root 2 1 = 0
            root 2 0 = -1
            drop 0 1 = 1
            collect 0 = 1
            make 0 0 = 4
            root 0 0 = 1
            slot 0 1 1 = 4
            slot 0 0 1 = 0
            make 0 1 = 5
            root 0 1 = 3
            flight = 0
            """);
        Script.run("make refuses", """
            make -1 0 = -1
            make 4 0 = -1
            make 0 -1 = -1
            make 0 3 = -1
            make 2147483647 0 = -1
            make 0 -2147483648 = -1
            make 3 2 = 0
            crash 3 = 1
            make 3 0 = -1
            make 0 1 = 1
            make 0 1 = 2
            make 0 1 = 3
            make 0 1 = 4
            make 0 1 = 5
            make 0 1 = 6
            make 0 1 = 7
            make 0 1 = 8
            make 0 1 = -1
            make 0 0 = -1
            make 1 0 = 9
            """);
        Script.run("an object in a slot that was used is new", Start.GOOD, """
            call 1 0 7 = 1
            deliver 0 = 1
            deliver 0 = 1
            slot 0 0 2 = 7
            link 0 0 0 0 = 1
            link 0 0 1 0 = 1
            drop 1 0 = 1
            collect 1 = 1
            deliver 0 = 1
            drop 0 0 = 1
            collect 0 = 1
            slot 0 0 1 = -1
            make 0 0 = 1
            slot 0 0 1 = 1
            slot 0 0 2 = 0
            slot 0 0 3 = -1
            slot 0 0 4 = -1
            listing 0 0 1 = 0
            """);
    }

    private static void link() {
        Script.run("link sets a field", """
            make 0 0 = 0
            make 0 1 = 1
            link 0 0 0 1 = 1
            slot 0 0 3 = 1
            slot 0 0 4 = -1
            link 0 0 1 0 = 1
            slot 0 0 3 = 1
            slot 0 0 4 = 0
            slot 0 1 3 = -1
            link 0 0 0 2 = 1        # root 2 refers to nothing
            slot 0 0 3 = -1
            slot 0 0 4 = 0
            link 0 0 1 -1 = 1
            slot 0 0 4 = -1
            root 0 0 = 0
            root 0 1 = 1
            """);
        Script.run("link refuses", """
            make 0 0 = 0
            make 0 1 = 1
            link 0 2 0 0 = 0        # root 2 refers to nothing
            link 0 2 0 -1 = 0
            link 0 0 2 1 = 0
            link 0 0 -1 1 = 0
            link 0 0 0 3 = 0
            link 0 0 0 -2 = 0
            link 0 3 0 1 = 0
            link 0 -1 0 1 = 0
            link 4 0 0 1 = 0
            link -1 0 0 1 = 0
            link 0 0 2147483647 1 = 0
            link 0 0 0 -2147483648 = 0
            crash 0 = 1
            link 0 0 0 1 = 0
            slot 0 0 3 = -1
            """);
        Script.run("link and surrogates", Start.STALE, """
            link 1 0 0 0 = 0        # root 0 refers to a surrogate
            link 1 0 0 -1 = 0
            make 1 1 = 1
            link 1 1 1 0 = 1        # to a surrogate, even a STALE one
            slot 1 1 4 = 0
            fetch 1 1 1 2 = 1
            root 1 2 = 0
            fetch 1 2 0 1 = 0       # root 2 refers to a surrogate now
            """);
    }

    private static void fetch() {
        Script.run("fetch reads a field", """
            make 0 0 = 0
            make 0 1 = 1
            link 0 0 1 1 = 1
            drop 0 1 = 1
            fetch 0 0 1 2 = 1
            root 0 2 = 1
            root 0 0 = 0
            fetch 0 0 0 2 = 1       # nothing
            root 0 2 = -1
            fetch 0 0 1 0 = 1       # into the root itself
            root 0 0 = 1
            fetch 0 0 1 0 = 1
            root 0 0 = -1
            """);
        Script.run("fetch refuses", """
            make 0 0 = 0
            link 0 0 0 0 = 1
            fetch 0 1 0 2 = 0       # root 1 refers to nothing
            fetch 0 0 2 1 = 0
            fetch 0 0 -1 1 = 0
            fetch 0 0 0 3 = 0
            fetch 0 0 0 -1 = 0
            fetch 0 3 0 1 = 0
            fetch 0 -1 0 1 = 0
            fetch 4 0 0 1 = 0
            fetch -1 0 0 1 = 0
            fetch 0 0 2147483647 1 = 0
            crash 0 = 1
            fetch 0 0 0 1 = 0
            """);
    }

    private static void dropAndRoot() {
        Script.run("drop", """
            make 1 2 = 0
            drop 1 0 = 1            # nothing already
            root 1 2 = 0
            drop 1 2 = 1
            root 1 2 = -1
            slot 1 0 0 = 1          # it stays until it is collected
            drop 1 2 = 1
            drop 1 3 = 0
            drop 1 -1 = 0
            drop 4 0 = 0
            drop -1 0 = 0
            drop 2147483647 0 = 0
            """);
        Script.run("drop at a crashed node, and its root", """
            make 1 2 = 0
            make 1 1 = 1
            crash 1 = 1
            drop 1 1 = 0
            root 1 1 = 1
            root 1 2 = 0
            root 1 0 = -1
            """);
        Script.run("root refuses", """
            make 0 0 = 0
            root -1 0 = -1
            root 4 0 = -1
            root 0 -1 = -1
            root 0 3 = -1
            root -2147483648 0 = -1
            root 0 2147483647 = -1
            """);
    }
}
