/** A call of the document by its name, as a line of a script has it. */
record Call(String name, int... arguments) {
    static Call parse(String text) {
        String[] words = text.strip().split(" +");
        int[] arguments = new int[words.length - 1];
        for (int i = 0; i < arguments.length; i++) {
            arguments[i] = Integer.parseInt(words[i + 1]);
        }
        return new Call(words[0], arguments);
    }

    Call withArgument(int place, int value) {
        int[] changed = arguments.clone();
        changed[place] = value;
        return new Call(name, changed);
    }

    @Override
    public String toString() {
        StringBuilder text = new StringBuilder(name);
        for (int a : arguments) {
            text.append(' ').append(a);
        }
        return text.toString();
    }
}
