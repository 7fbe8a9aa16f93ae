import java.math.BigInteger;
import java.util.ArrayList;
import java.util.Arrays;
import java.util.List;

/**
 * A plain model of the document. It reads texts by recursive descent and reduces all sets anew by fractions of big
 * numbers, so that it shares no way of working with the class.
 */
final class Model {
    private static final class ModelUser {
        Grammar.Part rule = object -> 0;
        int closed = 0;
        Grammar.Part query = null;
        int queryFields = 0;
        int position = -1;
        final List<List<Integer>> told = List.of(new ArrayList<>(), new ArrayList<>(), new ArrayList<>(), new ArrayList<>());
    }

    List<int[]> objects = new ArrayList<>();
    List<ModelUser> users = new ArrayList<>();
    List<Integer> tape = new ArrayList<>();
    List<Integer> matches = new ArrayList<>();
    List<int[]> audit = new ArrayList<>();
    int place = -1;
    boolean anybody = false;
    private Grammar.Part latest;
    private int latestFields;

    void clear() {
        objects = new ArrayList<>();
        users = new ArrayList<>();
        tape = new ArrayList<>();
        matches = new ArrayList<>();
        audit = new ArrayList<>();
        place = -1;
        anybody = false;
    }

    String tapeText() {
        StringBuilder text = new StringBuilder();
        for (int b : tape) {
            text.append((char) b);
        }
        return text.toString();
    }

    int object() {
        if (anybody) {
            return -5;
        }
        if (objects.size() == 12) {
            return -4;
        }
        objects.add(new int[4]);
        return objects.size() - 1;
    }

    private boolean no(int number, int bound) {
        return number < 0 || number >= bound;
    }

    private boolean noUser(int user) {
        return no(user, users.size());
    }

    private boolean noObject(int object) {
        return no(object, objects.size());
    }

    int set(int object, int field, int v) {
        if (noObject(object) || no(field, 4)) {
            return -1;
        }
        if (v < -1000 || v > 1000) {
            return -2;
        }
        if (anybody) {
            return -5;
        }
        objects.get(object)[field] = v;
        return 1;
    }

    int user() {
        if (users.size() == 4) {
            return -4;
        }
        users.add(new ModelUser());
        return users.size() - 1;
    }

    int type(long v, int n) {
        if (no(n, 9)) {
            return -2;
        }
        if (n == 0) {
            tape.clear();
            return 0;
        }
        if (tape.size() + n > 300) {
            return -4;
        }
        byte[] bytes = BigInteger.valueOf(v).toByteArray();
        for (int i = n; i > 0; i--) {
            int b = i <= bytes.length ? bytes[bytes.length - i] : v < 0 ? -1 : 0;
            tape.add(b & 255);
        }
        return tape.size();
    }

    private int takeText() {
        String text = tapeText();
        tape.clear();
        place = -1;
        try {
            Grammar grammar = new Grammar(text);
            latest = grammar.whole();
            latestFields = grammar.fields;
            return 0;
        } catch (Grammar.Fault f) {
            place = f.place;
            return f.number;
        }
    }

    private boolean isSeen(ModelUser user, int object) {
        return Integer.valueOf(1).equals(user.rule.truth(objects.get(object)));
    }

    private boolean isMatch(ModelUser user, Grammar.Part query, int object) {
        return isSeen(user, object) && Integer.valueOf(1).equals(query.truth(objects.get(object)));
    }

    int rule(int user) {
        if (noUser(user)) {
            return -1;
        }
        int fault = takeText();
        if (fault != 0) {
            return -10 - fault;
        }
        users.get(user).rule = latest;
        return seen(user, 0);
    }

    int place() {
        return place;
    }

    int close(int user, int mask) {
        if (noUser(user)) {
            return -1;
        }
        if (no(mask, 16)) {
            return -2;
        }
        int before = users.get(user).closed;
        users.get(user).closed = mask;
        return before;
    }

    int seen(int user, int what) {
        if (noUser(user)) {
            return -1;
        }
        if (no(what, 3)) {
            return -2;
        }
        int[] counts = new int[3];
        for (int[] object : objects) {
            Integer truth = users.get(user).rule.truth(object);
            counts[0] += truth != null && truth == 1 ? 1 : 0;
            counts[1] += truth == null || truth == 0 ? 1 : 0;
            counts[2] += truth == null ? 1 : 0;
        }
        return counts[what];
    }

    private int query(int user, int kind) {
        int fault = takeText();
        boolean barred = fault == 0 && (latestFields & users.get(user).closed) != 0;
        audit.add(new int[] {user, kind, 0, 0, fault != 0 ? 3 : barred ? 2 : 0});
        return fault != 0 ? -10 - fault : barred ? -6 : 0;
    }

    int ask(int user) {
        if (noUser(user)) {
            return -1;
        }
        if (audit.size() == 150) {
            return -4;
        }
        int refusal = query(user, 0);
        if (refusal != 0) {
            return refusal;
        }
        matches = new ArrayList<>();
        for (int i = 0; i < objects.size(); i++) {
            if (isMatch(users.get(user), latest, i)) {
                matches.add(i);
            }
        }
        return matches.size();
    }

    int found(int i) {
        return no(i, matches.size()) ? -1 : matches.get(i);
    }

    private boolean isHidden(ModelUser user, int object, int field) {
        return !isSeen(user, object) || (user.closed >> field & 1) == 1;
    }

    private boolean isSafe(ModelUser user, int field, int set) {
        List<Integer> with = new ArrayList<>(user.told.get(field));
        with.add(set);
        List<Fraction[]> after = reduced(with);
        List<Fraction[]> before = reduced(user.told.get(field));
        for (int i = 0; i < objects.size(); i++) {
            if (isHidden(user, i, field) && isSolved(after, i) && !isSolved(before, i)) {
                return false;
            }
        }
        return true;
    }

    long value(int user, int object, int field) {
        if (noUser(user) || noObject(object) || no(field, 4)) {
            return Calls.OUT;
        }
        if (audit.size() == 150) {
            return Calls.LATE;
        }
        ModelUser u = users.get(user);
        boolean tells = !isHidden(u, object, field) && isSafe(u, field, 1 << object);
        audit.add(new int[] {user, 1, object, field, tells ? 0 : 1});
        return tells ? tell(u, field, 1 << object) : Calls.KEPT;
    }

    long sum(int user, int field, int set) {
        if (noUser(user) || no(field, 4) || badSet(set)) {
            return Calls.OUT;
        }
        if (audit.size() == 150) {
            return Calls.LATE;
        }
        ModelUser u = users.get(user);
        boolean tells = isSafe(u, field, set);
        audit.add(new int[] {user, 2, field, set, tells ? 0 : 1});
        return tells ? tell(u, field, set) : Calls.KEPT;
    }

    private boolean badSet(int set) {
        return set <= 0 || set >= 1 << objects.size();
    }

    private long tell(ModelUser user, int field, int set) {
        anybody = true;
        user.told.get(field).add(set);
        long total = 0;
        for (int i = 0; i < objects.size(); i++) {
            total += (set >> i & 1) * objects.get(i)[field];
        }
        return total;
    }

    int cell(int user, int field, int low, int high) {
        if (noUser(user) || no(field, 4)) {
            return -1;
        }
        if (high < low) {
            return -2;
        }
        if (audit.size() == 150) {
            return -4;
        }
        boolean barred = (users.get(user).closed >> field & 1) == 1;
        audit.add(new int[] {user, 3, field, low, barred ? 2 : 0});
        int count = 0;
        for (int i = 0; i < objects.size(); i++) {
            int v = objects.get(i)[field];
            count += isSeen(users.get(user), i) && low <= v && v <= high ? 1 : 0;
        }
        return barred ? -6 : count;
    }

    int cursor(int user) {
        if (noUser(user)) {
            return -1;
        }
        if (audit.size() == 150) {
            return -4;
        }
        int refusal = query(user, 4);
        if (refusal != 0) {
            return refusal;
        }
        ModelUser u = users.get(user);
        u.query = latest;
        u.queryFields = latestFields;
        u.position = -1;
        return 1;
    }

    int step(int user) {
        if (noUser(user)) {
            return -1;
        }
        ModelUser u = users.get(user);
        if (u.query == null) {
            return -5;
        }
        if (audit.size() == 150) {
            return -4;
        }
        boolean barred = (u.queryFields & u.closed) != 0;
        audit.add(new int[] {user, 5, 0, 0, barred ? 2 : 0});
        if (barred) {
            return -6;
        }
        do {
            u.position++;
        } while (u.position < objects.size() && !isMatch(u, u.query, u.position));
        if (u.position >= objects.size()) {
            u.position = objects.size() - 1;
            return -3;
        }
        return u.position;
    }

    /** Gauss and Jordan over all columns, as the book has it. */
    private List<Fraction[]> reduced(List<Integer> sets) {
        int n = objects.size();
        List<Fraction[]> rows = new ArrayList<>();
        for (int set : sets) {
            Fraction[] row = new Fraction[n];
            for (int i = 0; i < n; i++) {
                row[i] = (set >> i & 1) == 1 ? Fraction.ONE : Fraction.ZERO;
            }
            rows.add(row);
        }
        int done = 0;
        for (int column = 0; column < n; column++) {
            int with = done;
            while (with < rows.size() && rows.get(with)[column].isZero()) {
                with++;
            }
            if (with == rows.size()) {
                continue;
            }
            Fraction[] pivot = rows.remove(with);
            rows.add(done, pivot);
            Fraction first = pivot[column];
            for (int i = 0; i < n; i++) {
                pivot[i] = pivot[i].by(first);
            }
            for (Fraction[] row : rows) {
                Fraction times = row[column];
                for (int i = 0; row != pivot && i < n && !times.isZero(); i++) {
                    row[i] = row[i].minus(pivot[i].times(times));
                }
            }
            done++;
        }
        return new ArrayList<>(rows.subList(0, done));
    }

    private static int pivotOf(Fraction[] row) {
        int i = 0;
        while (row[i].isZero()) {
            i++;
        }
        return i;
    }

    private static boolean isSolved(List<Fraction[]> rows, int object) {
        for (Fraction[] row : rows) {
            long others = Arrays.stream(row).filter(f -> !f.isZero()).count();
            if (others == 1 && row[object].isOne()) {
                return true;
            }
        }
        return false;
    }

    int solved(int user, int field, int object) {
        if (noUser(user) || no(field, 4) || noObject(object)) {
            return -1;
        }
        return isSolved(reduced(users.get(user).told.get(field)), object) ? 1 : 0;
    }

    int would(int user, int field, int object, int set) {
        if (noUser(user) || no(field, 4) || noObject(object)) {
            return -1;
        }
        if (badSet(set)) {
            return -2;
        }
        List<Integer> with = new ArrayList<>(users.get(user).told.get(field));
        with.add(set);
        return isSolved(reduced(with), object) ? 1 : 0;
    }

    long world(int user, int field, int object, int k) {
        if (noUser(user) || no(field, 4) || noObject(object) || noObject(k)) {
            return -1;
        }
        List<Integer> sets = users.get(user).told.get(field);
        List<Fraction[]> rows = reduced(sets);
        if (isSolved(rows, object)) {
            return -5;
        }
        int free = object;
        for (Fraction[] row : rows) {
            if (pivotOf(row) == object) {
                free = object + 1;
                while (row[free].isZero()) {
                    free++;
                }
            }
        }
        Fraction[] numbers = new Fraction[objects.size()];
        Arrays.fill(numbers, Fraction.ZERO);
        numbers[free] = Fraction.ONE;
        BigInteger least = BigInteger.ONE;
        for (Fraction[] row : rows) {
            Fraction number = Fraction.ZERO.minus(row[free]);
            numbers[pivotOf(row)] = number;
            least = least.multiply(number.under).divide(least.gcd(number.under));
        }
        long[] whole = new long[numbers.length];
        for (int i = 0; i < whole.length; i++) {
            whole[i] = numbers[i].over.multiply(least).divide(numbers[i].under).longValueExact();
        }
        mustTellTheSame(sets, whole, object);
        return whole[k];
    }

    /** The meaning of the whole: no sum that was told sees the other world, but the object does. */
    private static void mustTellTheSame(List<Integer> sets, long[] whole, int object) {
        for (int set : sets) {
            long total = 0;
            for (int i = 0; i < whole.length; i++) {
                total += (set >> i & 1) * whole[i];
            }
            if (total != 0) {
                throw new IllegalStateException("the model's other world tells another sum");
            }
        }
        if (whole[object] == 0) {
            throw new IllegalStateException("the model's other world leaves the object as it is");
        }
    }

    int rows(int user, int field) {
        return noUser(user) || no(field, 4) ? -1 : reduced(users.get(user).told.get(field)).size();
    }

    int audit(int i, int what) {
        return no(i, audit.size()) ? -1 : no(what, 5) ? -2 : audit.get(i)[what];
    }

    int told(int what) {
        if (no(what, 5)) {
            return -2;
        }
        return new int[] {objects.size(), users.size(), tape.size(), audit.size(), anybody ? 1 : 0}[what];
    }
}
