/**
 * An object of the class whose calls are counted, as nothing is promised behind the 512th. What value() and sum()
 * throw is answered as a number that no sum can be.
 */
final class Calls {
    static final int OUT = -1_000_001, LATE = -1_000_002, KEPT = -1_000_003, OTHER = -1_000_004;
    private static final int PROMISED = 512;

    private final HiddenSums sums = new HiddenSums();
    private int made = 0;

    private HiddenSums counted() {
        made++;
        if (made > PROMISED) {
            throw new UnsupportedOperationException("the test itself makes more than 512 calls of one object");
        }
        return sums;
    }

    private static int codeOf(RuntimeException e) {
        return e.getClass() == IndexOutOfBoundsException.class ? OUT
                : e.getClass() == IllegalStateException.class ? LATE
                : e.getClass() == IllegalArgumentException.class ? KEPT : OTHER;
    }

    int object() {
        return counted().object();
    }

    int set(int object, int field, int v) {
        return counted().set(object, field, v);
    }

    int user() {
        return counted().user();
    }

    int type(long v, int n) {
        return counted().type(v, n);
    }

    int rule(int user) {
        return counted().rule(user);
    }

    int place() {
        return counted().place();
    }

    int close(int user, int mask) {
        return counted().close(user, mask);
    }

    int seen(int user, int what) {
        return counted().seen(user, what);
    }

    int ask(int user) {
        return counted().ask(user);
    }

    int found(int i) {
        return counted().found(i);
    }

    int value(int user, int object, int field) {
        HiddenSums asked = counted();
        try {
            return asked.value(user, object, field);
        } catch (RuntimeException e) {
            return codeOf(e);
        }
    }

    int sum(int user, int field, int set) {
        HiddenSums asked = counted();
        try {
            return asked.sum(user, field, set);
        } catch (RuntimeException e) {
            return codeOf(e);
        }
    }

    int cell(int user, int field, int low, int high) {
        return counted().cell(user, field, low, high);
    }

    int cursor(int user) {
        return counted().cursor(user);
    }

    int step(int user) {
        return counted().step(user);
    }

    int solved(int user, int field, int object) {
        return counted().solved(user, field, object);
    }

    int would(int user, int field, int object, int set) {
        return counted().would(user, field, object, set);
    }

    long world(int user, int field, int object, int k) {
        return counted().world(user, field, object, k);
    }

    int rows(int user, int field) {
        return counted().rows(user, field);
    }

    int audit(int i, int what) {
        return counted().audit(i, what);
    }

    int told(int what) {
        return counted().told(what);
    }

    void clear() {
        counted().clear();
    }

    /** Puts a text on an empty tape, eight bytes at a time: the last type()'s answer. */
    int write(String text) {
        int length = type(0, 0);
        for (int at = 0; at < text.length(); at += 8) {
            int n = Math.min(8, text.length() - at);
            long v = 0;
            for (int i = 0; i < n; i++) {
                v = v << 8 | text.charAt(at + i);
            }
            length = type(v, n);
        }
        return length;
    }

    int rule(int user, String text) {
        write(text);
        return rule(user);
    }

    int ask(int user, String text) {
        write(text);
        return ask(user);
    }

    int cursor(int user, String text) {
        write(text);
        return cursor(user);
    }

    void objects(int count) {
        for (int i = 0; i < count; i++) {
            object();
        }
    }

    /** Objects with these values in FIELD a and their numbers in FIELD b; users who see all. */
    static Calls with(int users, int... values) {
        Calls x = new Calls();
        for (int i = 0; i < values.length; i++) {
            x.object();
            x.set(i, 0, values[i]);
            x.set(i, 1, i);
        }
        for (int i = 0; i < users; i++) {
            x.user();
            x.rule(i, "true");
        }
        return x;
    }

    /** Asks until the AUDIT has that many entries. */
    void fillAudit(int entries) {
        for (int i = told(3); i < entries; i++) {
            cell(0, 3, 0, 0);
        }
    }
}
