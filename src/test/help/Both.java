/** The class and the model side by side: each call is made of both, and the first answer in which they differ is kept. */
final class Both {
    final Model model = new Model();
    private final Calls real = new Calls();
    private int calls = 0;
    private String difference = "";

    /** The first answer that is not the model's, or nothing. */
    String difference() {
        return difference;
    }

    boolean isSame() {
        return difference.isEmpty();
    }

    int calls() {
        return calls;
    }

    private long due(long got, long want, String name, long... numbers) {
        calls++;
        if (got != want && isSame()) {
            StringBuilder call = new StringBuilder(name).append('(');
            for (int i = 0; i < numbers.length; i++) {
                call.append(i == 0 ? "" : ", ").append(numbers[i]);
            }
            difference = call + ") answered " + got + ", due is " + want + ", behind " + (calls - 1) + " calls";
        }
        return want;
    }

    long object() {
        return due(real.object(), model.object(), "object");
    }

    long set(int object, int field, int v) {
        return due(real.set(object, field, v), model.set(object, field, v), "set", object, field, v);
    }

    long user() {
        return due(real.user(), model.user(), "user");
    }

    long type(long v, int n) {
        return due(real.type(v, n), model.type(v, n), "type", v, n);
    }

    long rule(int user) {
        String tape = model.tapeText();
        return due(real.rule(user), model.rule(user), "[" + tape + "] rule", user);
    }

    long place() {
        return due(real.place(), model.place(), "place");
    }

    long close(int user, int mask) {
        return due(real.close(user, mask), model.close(user, mask), "close", user, mask);
    }

    long seen(int user, int what) {
        return due(real.seen(user, what), model.seen(user, what), "seen", user, what);
    }

    long ask(int user) {
        String tape = model.tapeText();
        return due(real.ask(user), model.ask(user), "[" + tape + "] ask", user);
    }

    long found(int i) {
        return due(real.found(i), model.found(i), "found", i);
    }

    long value(int user, int object, int field) {
        return due(real.value(user, object, field), model.value(user, object, field), "value", user, object, field);
    }

    long sum(int user, int field, int set) {
        return due(real.sum(user, field, set), model.sum(user, field, set), "sum", user, field, set);
    }

    long cell(int user, int field, int low, int high) {
        return due(real.cell(user, field, low, high), model.cell(user, field, low, high), "cell", user, field, low, high);
    }

    long cursor(int user) {
        String tape = model.tapeText();
        return due(real.cursor(user), model.cursor(user), "[" + tape + "] cursor", user);
    }

    long step(int user) {
        return due(real.step(user), model.step(user), "step", user);
    }

    long solved(int user, int field, int object) {
        return due(real.solved(user, field, object), model.solved(user, field, object), "solved", user, field, object);
    }

    long would(int user, int field, int object, int set) {
        return due(real.would(user, field, object, set), model.would(user, field, object, set), "would", user, field, object, set);
    }

    long world(int user, int field, int object, int k) {
        return due(real.world(user, field, object, k), model.world(user, field, object, k), "world", user, field, object, k);
    }

    long rows(int user, int field) {
        return due(real.rows(user, field), model.rows(user, field), "rows", user, field);
    }

    long audit(int i, int what) {
        return due(real.audit(i, what), model.audit(i, what), "audit", i, what);
    }

    long told(int what) {
        return due(real.told(what), model.told(what), "told", what);
    }

    long clear() {
        real.clear();
        model.clear();
        return due(0, 0, "clear");
    }

    /** Puts a text behind the tape, eight bytes at a time; above them v has what type() is not to take. */
    void write(String text, long above) {
        for (int at = 0; at < text.length(); at += 8) {
            int n = Math.min(8, text.length() - at);
            long v = above;
            for (int i = 0; i < n; i++) {
                v = v << 8 | text.charAt(at + i);
            }
            type(v, n);
        }
    }

    long rule(int user, String text) {
        write(text, 0);
        return rule(user);
    }

    long ask(int user, String text) {
        write(text, 0);
        return ask(user);
    }

    long cursor(int user, String text) {
        write(text, 0);
        return cursor(user);
    }
}
