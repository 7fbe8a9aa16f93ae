import java.math.BigInteger;
import java.util.ArrayList;
import java.util.Arrays;
import java.util.List;
import java.util.Random;
import java.util.concurrent.atomic.AtomicInteger;
import java.util.regex.Matcher;
import java.util.regex.Pattern;
import java.util.stream.IntStream;

/**
 * Long runs of calls, made from fixed seeds, on the class and on a plain model of the document
 * side by side. The model reads texts by recursive descent and reduces all sets anew by fractions
 * of big numbers, so that it shares no way of working with the class.
 */
public final class ModelRuns {
    private static final int RUNS = 6000;
    private static final int CALLS = 512;
    /** Of one round at most: a text of 310 bytes, what takes it, and its place. */
    private static final int ROUND = 42;
    private static final AtomicInteger WRONG = new AtomicInteger();

    public static void main(String[] args) {
        IntStream.range(0, RUNS).parallel().filter(seed -> WRONG.get() < 10).forEach(seed -> new Run(seed).go());
        int wrong = WRONG.get();
        System.out.println(wrong == 0 ? RUNS + " runs answer as the model does" : wrong + " runs differ from the model");
        if (wrong != 0) {
            System.exit(1);
        }
    }

    /** One run: its seed also says how many objects and users it likes, and how faulty its texts are. */
    private static final class Run {
        final int seed;
        final Random random;
        final HiddenSums real = new HiddenSums();
        final Model model = new Model();
        final List<String> log = new ArrayList<>();

        Run(int seed) {
            this.seed = seed;
            this.random = new Random(seed);
        }

        void go() {
            boolean same = prepare();
            while (same && log.size() + ROUND <= CALLS) {
                same = call();
            }
            if (!same) {
                WRONG.incrementAndGet();
                System.out.println("run " + seed + " after " + (log.size() - 1) + " calls: " + log.get(log.size() - 1));
            }
        }

        private boolean prepare() {
            boolean same = true;
            int objects = isDense() ? 12 : random.nextInt(13);
            for (int i = 0; same && i < objects; i++) {
                same = due("object()", real.object(), model.object());
                for (int field = 0; same && field < 4; field++) {
                    int v = random.nextInt(7) - 3;
                    same = due("set(" + i + "," + field + "," + v + ")", real.set(i, field, v), model.set(i, field, v));
                }
            }
            int users = isDense() ? 1 : random.nextInt(4) + (seed % 5 == 0 ? 0 : 1);
            for (int i = 0; same && i < users; i++) {
                same = due("user()", real.user(), model.user());
            }
            return same;
        }

        /** Every tenth run is for one user who is told much of one field: there the fractions grow. */
        private boolean isDense() {
            return seed % 10 == 9;
        }

        private boolean due(String call, long got, long want) {
            log.add(call + " answered " + got + ", due is " + want);
            return got == want;
        }

        private int near(int from, int to) {
            return random.nextInt(40) == 0 ? (random.nextBoolean() ? from - 1 - random.nextInt(3) : to + random.nextInt(3))
                    : from + random.nextInt(Math.max(1, to - from));
        }

        private int user() {
            return near(0, model.users.size());
        }

        private int field() {
            return random.nextInt(isDense() ? 50 : 3) == 0 ? near(0, 4) : 0;
        }

        private int object() {
            return near(0, model.objects.size());
        }

        private int set() {
            int set = random.nextInt(1 << Math.max(1, model.objects.size()));
            return random.nextInt(50) == 0 ? random.nextInt() : set;
        }

        private boolean call() {
            int user = user();
            int field = field();
            int object = object();
            int which = isDense() && random.nextInt(3) != 0 ? 460 + random.nextInt(440) : random.nextInt(1000);
            if (which < 3 && seed % 3 == 0) {
                real.clear();
                model.clear();
                return due("clear()", 0, 0);
            } else if (which < 30) {
                return due("object()", real.object(), model.object());
            } else if (which < 60) {
                int v = random.nextInt(5) == 0 ? random.nextInt(2100) - 1050 : random.nextInt(60) == 0 ? random.nextInt() : random.nextInt(7) - 3;
                return due("set(" + object + "," + field + "," + v + ")", real.set(object, field, v), model.set(object, field, v));
            } else if (which < 80) {
                return due("user()", real.user(), model.user());
            } else if (which < 320) {
                return textCall(user);
            } else if (which < 340) {
                return due("place()", real.place(), model.place());
            } else if (which < 380) {
                int mask = near(0, 16);
                return due("close(" + user + "," + mask + ")", real.close(user, mask), model.close(user, mask));
            } else if (which < 410) {
                int what = near(0, 3);
                return due("seen(" + user + "," + what + ")", real.seen(user, what), model.seen(user, what));
            } else if (which < 430) {
                int i = near(0, 8);
                return due("found(" + i + ")", real.found(i), model.found(i));
            } else if (which < 460) {
                return due("value(" + user + "," + object + "," + field + ")", value(user, object, field), model.value(user, object, field));
            } else if (which < 600) {
                int set = set();
                return due("sum(" + user + "," + field + "," + set + ")", sum(user, field, set), model.sum(user, field, set));
            } else if (which < 630) {
                int low = random.nextInt(10) - 5;
                int high = random.nextInt(10) - 3;
                return due("cell(" + user + "," + field + "," + low + "," + high + ")", real.cell(user, field, low, high),
                        model.cell(user, field, low, high));
            } else if (which < 670) {
                return due("step(" + user + ")", real.step(user), model.step(user));
            } else if (which < 720) {
                return due("solved(" + user + "," + field + "," + object + ")", real.solved(user, field, object), model.solved(user, field, object));
            } else if (which < 770) {
                int set = set();
                return due("would(" + user + "," + field + "," + object + "," + set + ")", real.would(user, field, object, set),
                        model.would(user, field, object, set));
            } else if (which < 900) {
                int k = object();
                return due("world(" + user + "," + field + "," + object + "," + k + ")", real.world(user, field, object, k),
                        model.world(user, field, object, k));
            } else if (which < 930) {
                return due("rows(" + user + "," + field + ")", real.rows(user, field), model.rows(user, field));
            } else if (which < 970) {
                int i = near(0, model.audit.size());
                int what = near(0, 5);
                return due("audit(" + i + "," + what + ")", real.audit(i, what), model.audit(i, what));
            }
            int what = near(0, 5);
            return due("told(" + what + ")", real.told(what), model.told(what));
        }

        private boolean textCall(int user) {
            if (random.nextInt(8) != 0 && !typeText(new Texts(random).text())) {
                return false;
            }
            if (random.nextInt(30) == 0) {
                long v = random.nextLong();
                int n = near(0, 9);
                return due("type(" + v + "," + n + ")", real.type(v, n), model.type(v, n));
            }
            String tape = model.tapeText();
            switch (random.nextInt(3)) {
                case 0:
                    return due("rule(" + user + ") of " + tape, real.rule(user), model.rule(user)) && due("place()", real.place(), model.place());
                case 1:
                    return due("ask(" + user + ") of " + tape, real.ask(user), model.ask(user)) && due("place()", real.place(), model.place());
                default:
                    return due("cursor(" + user + ") of " + tape, real.cursor(user), model.cursor(user));
            }
        }

        private boolean typeText(String text) {
            if (random.nextInt(10) != 0 && !due("type(0,0)", real.type(0, 0), model.type(0, 0))) {
                return false;
            }
            for (int at = 0; at < text.length(); at += 8) {
                int n = Math.min(8, text.length() - at);
                long v = random.nextInt();
                for (int i = 0; i < n; i++) {
                    v = v << 8 | text.charAt(at + i);
                }
                if (!due("type(" + v + "," + n + ")", real.type(v, n), model.type(v, n))) {
                    return false;
                }
            }
            return true;
        }

        private long value(int user, int object, int field) {
            try {
                return real.value(user, object, field);
            } catch (IndexOutOfBoundsException e) {
                return e.getClass() == IndexOutOfBoundsException.class ? Model.OUT : 0;
            } catch (IllegalStateException e) {
                return Model.TOO_LATE;
            } catch (IllegalArgumentException e) {
                return Model.HIDDEN;
            }
        }

        private long sum(int user, int field, int set) {
            try {
                return real.sum(user, field, set);
            } catch (IndexOutOfBoundsException e) {
                return e.getClass() == IndexOutOfBoundsException.class ? Model.OUT : 0;
            } catch (IllegalStateException e) {
                return Model.TOO_LATE;
            } catch (IllegalArgumentException e) {
                return Model.HIDDEN;
            }
        }
    }

    /** Texts that follow the grammar, some of them spoilt afterwards. */
    private static final class Texts {
        private final Random random;
        private final StringBuilder out = new StringBuilder();

        Texts(Random random) {
            this.random = random;
        }

        String text() {
            int sort = random.nextInt(24);
            if (sort == 0) {
                deep();
            } else if (sort == 1) {
                wide();
            } else {
                any(random.nextInt(4));
            }
            int spoils = random.nextInt(3) == 0 ? 1 + random.nextInt(2) : 0;
            for (int i = 0; i < spoils; i++) {
                spoil();
            }
            return out.length() > 310 ? out.substring(0, 310) : out.toString();
        }

        private void put(String token) {
            boolean joins = out.length() > 0 && Character.isLetterOrDigit(out.charAt(out.length() - 1))
                    && Character.isLetterOrDigit(token.charAt(0));
            if (joins || random.nextInt(6) == 0) {
                out.append(' ');
            }
            out.append(token);
        }

        /** Twelve to fourteen brackets and nots within one another. */
        private void deep() {
            int levels = 12 + random.nextInt(3);
            int open = 0;
            for (int i = 0; i < levels; i++) {
                boolean bracket = random.nextBoolean();
                put(bracket ? "(" : "not");
                open += bracket ? 1 : 0;
            }
            one(0);
            for (int i = 0; i < open; i++) {
                if (random.nextInt(3) == 0) {
                    put("and");
                    one(1);
                }
                put(")");
            }
        }

        /** Some sixty tokens. */
        private void wide() {
            int tokens = 57 + random.nextInt(7);
            put("a");
            put("<");
            for (int i = 2; i < tokens; i++) {
                put(i % 2 == 0 ? "b" : "+");
            }
        }

        private void any(int depth) {
            all(depth);
            while (random.nextInt(3) == 0) {
                put("or");
                all(depth);
            }
        }

        private void all(int depth) {
            one(depth);
            while (random.nextInt(3) == 0) {
                put("and");
                one(depth);
            }
        }

        private void one(int depth) {
            int sort = random.nextInt(depth > 0 ? 10 : 7);
            if (sort == 0) {
                put("true");
            } else if (sort == 1) {
                put("false");
            } else if (sort < 7) {
                sum();
                put(random.nextInt(3) == 0 ? "=" : random.nextBoolean() ? "<" : ">");
                sum();
            } else if (sort == 7) {
                put("not");
                one(depth - 1);
            } else {
                put("(");
                any(depth - 1);
                put(")");
            }
        }

        private void sum() {
            leaf();
            while (random.nextInt(3) == 0) {
                put("" + "+-*/".charAt(random.nextInt(4)));
                leaf();
            }
        }

        private void leaf() {
            int sort = random.nextInt(10);
            if (sort < 6) {
                put("" + "aaabcd".charAt(sort));
            } else if (sort < 9) {
                put("" + random.nextInt(random.nextInt(4) == 0 ? 10000 : 5));
            } else {
                put("-");
                leaf();
            }
        }

        private void spoil() {
            String marks = "abcdeornt0123 ()+-*/<=>A~\u00ff\u0000";
            char mark = marks.charAt(random.nextInt(marks.length()));
            int at = random.nextInt(out.length() + 1);
            if (at == out.length() || random.nextInt(3) == 0) {
                out.insert(at, mark);
            } else if (random.nextBoolean()) {
                out.deleteCharAt(at);
            } else {
                out.setCharAt(at, mark);
            }
        }
    }

    /** A text as the document's grammar has it; truth is 1, 0, or null for an ERROR. */
    private interface Part {
        Integer truth(int[] object);
    }

    private interface Amount {
        Long reckon(int[] object);
    }

    private static final class Fault extends RuntimeException {
        private static final long serialVersionUID = 1L;
        final int number;
        final int place;

        Fault(int number, int place) {
            super(null, null, false, false);
            this.number = number;
            this.place = place;
        }
    }

    private static final class Grammar {
        private static final Pattern TOKEN = Pattern.compile("[a-z]+|[0-9]+|[()+*/<=>-]");
        private final String text;
        private int at = 0;
        private int taken = 0;
        private int open = 0;
        private String token;
        private int start;
        int fields = 0;

        Grammar(String text) {
            this.text = text;
            look();
        }

        Part whole() {
            Part part = any();
            if (!token.isEmpty()) {
                throw new Fault(2, start);
            }
            return part;
        }

        private void look() {
            while (at < text.length() && text.charAt(at) == ' ') {
                at++;
            }
            start = at;
            if (at == text.length()) {
                token = "";
                return;
            }
            Matcher m = TOKEN.matcher(text);
            if (!m.find(at) || m.start() != at) {
                throw new Fault(1, start);
            }
            token = m.group();
            at = m.end();
            boolean number = Character.isDigit(token.charAt(0));
            boolean letters = Character.isLetter(token.charAt(0));
            if (number && token.length() > 4 || letters && !token.matches("and|or|not|true|false|[abcd]")) {
                throw new Fault(1, start);
            }
        }

        private void take() {
            taken++;
            if (taken > 60) {
                throw new Fault(3, start);
            }
            if (token.equals("(") || token.equals("not")) {
                if (open == 12) {
                    throw new Fault(3, start);
                }
                open++;
            }
            look();
        }

        private Part any() {
            List<Part> parts = new ArrayList<>();
            parts.add(all());
            while (token.equals("or")) {
                take();
                parts.add(all());
            }
            return object -> decide(parts, object, 1);
        }

        private Part all() {
            List<Part> parts = new ArrayList<>();
            parts.add(one());
            while (token.equals("and")) {
                take();
                parts.add(one());
            }
            return object -> decide(parts, object, 0);
        }

        private static Integer decide(List<Part> parts, int[] object, int decisive) {
            boolean error = false;
            for (Part part : parts) {
                Integer truth = part.truth(object);
                if (truth == null) {
                    error = true;
                } else if (truth == decisive) {
                    return decisive;
                }
            }
            return error ? null : Integer.valueOf(1 - decisive);
        }

        private Part one() {
            if (token.equals("true") || token.equals("false")) {
                int truth = token.equals("true") ? 1 : 0;
                take();
                return object -> truth;
            }
            if (token.equals("not")) {
                take();
                Part inner = one();
                open--;
                return object -> inner.truth(object) == null ? null : Integer.valueOf(1 - inner.truth(object));
            }
            if (token.equals("(")) {
                take();
                Part inner = any();
                if (!token.equals(")")) {
                    throw new Fault(2, start);
                }
                open--;
                take();
                return inner;
            }
            Amount left = sum();
            String sign = token;
            if (!sign.equals("<") && !sign.equals("=") && !sign.equals(">")) {
                throw new Fault(2, start);
            }
            take();
            Amount right = sum();
            return object -> compare(sign, left.reckon(object), right.reckon(object));
        }

        private static Integer compare(String sign, Long left, Long right) {
            if (left == null || right == null) {
                return null;
            }
            int order = left.compareTo(right);
            return (sign.equals("<") ? order < 0 : sign.equals("=") ? order == 0 : order > 0) ? 1 : 0;
        }

        private Amount sum() {
            Amount left = times();
            while (token.equals("+") || token.equals("-")) {
                boolean plus = token.equals("+");
                take();
                Amount before = left;
                Amount right = times();
                left = object -> {
                    Long x = before.reckon(object);
                    Long y = right.reckon(object);
                    return x == null || y == null ? null : Long.valueOf(plus ? x + y : x - y);
                };
            }
            return left;
        }

        private Amount times() {
            Amount left = leaf();
            while (token.equals("*") || token.equals("/")) {
                boolean times = token.equals("*");
                take();
                Amount before = left;
                Amount right = leaf();
                left = object -> {
                    Long x = before.reckon(object);
                    Long y = right.reckon(object);
                    return x == null || y == null || !times && y == 0 ? null : Long.valueOf(times ? x * y : x / y);
                };
            }
            return left;
        }

        private Amount leaf() {
            if (token.equals("-")) {
                take();
                Amount inner = leaf();
                return object -> -inner.reckon(object);
            }
            if (token.matches("[abcd]")) {
                int field = token.charAt(0) - 'a';
                fields |= 1 << field;
                take();
                return object -> (long) object[field];
            }
            if (token.matches("[0-9]+")) {
                long number = Long.parseLong(token);
                take();
                return object -> number;
            }
            throw new Fault(2, start);
        }
    }

    /** A number over another one above 0, without a common divisor. */
    private static final class Fraction {
        static final Fraction ZERO = new Fraction(BigInteger.ZERO, BigInteger.ONE);
        static final Fraction ONE = new Fraction(BigInteger.ONE, BigInteger.ONE);
        final BigInteger over;
        final BigInteger under;

        Fraction(BigInteger over, BigInteger under) {
            BigInteger common = over.gcd(under);
            BigInteger divisor = under.signum() < 0 ? common.negate() : common;
            this.over = over.divide(divisor);
            this.under = under.divide(divisor);
        }

        Fraction minus(Fraction f) {
            return new Fraction(over.multiply(f.under).subtract(f.over.multiply(under)), under.multiply(f.under));
        }

        Fraction times(Fraction f) {
            return new Fraction(over.multiply(f.over), under.multiply(f.under));
        }

        Fraction by(Fraction f) {
            return new Fraction(over.multiply(f.under), under.multiply(f.over));
        }

        boolean isZero() {
            return over.signum() == 0;
        }

        boolean isOne() {
            return over.equals(under);
        }
    }

    private static final class ModelUser {
        Part rule = object -> 0;
        int closed = 0;
        Part query = null;
        int queryFields = 0;
        int position = -1;
        final List<List<Integer>> told = List.of(new ArrayList<>(), new ArrayList<>(), new ArrayList<>(), new ArrayList<>());
    }

    private static final class Model {
        static final long OUT = -100001, TOO_LATE = -100002, HIDDEN = -100003;
        List<int[]> objects = new ArrayList<>();
        List<ModelUser> users = new ArrayList<>();
        List<Integer> tape = new ArrayList<>();
        List<Integer> matches = new ArrayList<>();
        List<int[]> audit = new ArrayList<>();
        int place = -1;
        boolean anybody = false;
        private Part latest;
        private int latestFields;

        void clear() {
            objects = new ArrayList<>();
            users = new ArrayList<>();
            tape = new ArrayList<>();
            matches = new ArrayList<>();
            audit = new ArrayList<>();
            place = -1;
            anybody = false;
        }

        String tapeText() {
            StringBuilder text = new StringBuilder();
            for (int b : tape) {
                text.append((char) b);
            }
            return text.toString();
        }

        int object() {
            if (anybody) {
                return -5;
            }
            if (objects.size() == 12) {
                return -4;
            }
            objects.add(new int[4]);
            return objects.size() - 1;
        }

        private boolean no(int number, int bound) {
            return number < 0 || number >= bound;
        }

        private boolean noUser(int user) {
            return no(user, users.size());
        }

        private boolean noObject(int object) {
            return no(object, objects.size());
        }

        int set(int object, int field, int v) {
            if (noObject(object) || no(field, 4)) {
                return -1;
            }
            if (v < -1000 || v > 1000) {
                return -2;
            }
            if (anybody) {
                return -5;
            }
            objects.get(object)[field] = v;
            return 1;
        }

        int user() {
            if (users.size() == 4) {
                return -4;
            }
            users.add(new ModelUser());
            return users.size() - 1;
        }

        int type(long v, int n) {
            if (no(n, 9)) {
                return -2;
            }
            if (n == 0) {
                tape.clear();
                return 0;
            }
            if (tape.size() + n > 300) {
                return -4;
            }
            byte[] bytes = BigInteger.valueOf(v).toByteArray();
            for (int i = n; i > 0; i--) {
                int b = i <= bytes.length ? bytes[bytes.length - i] : v < 0 ? -1 : 0;
                tape.add(b & 255);
            }
            return tape.size();
        }

        private int takeText() {
            String text = tapeText();
            tape.clear();
            place = -1;
            try {
                Grammar grammar = new Grammar(text);
                latest = grammar.whole();
                latestFields = grammar.fields;
                return 0;
            } catch (Fault f) {
                place = f.place;
                return f.number;
            }
        }

        private boolean isSeen(ModelUser user, int object) {
            return Integer.valueOf(1).equals(user.rule.truth(objects.get(object)));
        }

        private boolean isMatch(ModelUser user, Part query, int object) {
            return isSeen(user, object) && Integer.valueOf(1).equals(query.truth(objects.get(object)));
        }

        int rule(int user) {
            if (noUser(user)) {
                return -1;
            }
            int fault = takeText();
            if (fault != 0) {
                return -10 - fault;
            }
            users.get(user).rule = latest;
            return seen(user, 0);
        }

        int place() {
            return place;
        }

        int close(int user, int mask) {
            if (noUser(user)) {
                return -1;
            }
            if (no(mask, 16)) {
                return -2;
            }
            int before = users.get(user).closed;
            users.get(user).closed = mask;
            return before;
        }

        int seen(int user, int what) {
            if (noUser(user)) {
                return -1;
            }
            if (no(what, 3)) {
                return -2;
            }
            int[] counts = new int[3];
            for (int[] object : objects) {
                Integer truth = users.get(user).rule.truth(object);
                counts[0] += truth != null && truth == 1 ? 1 : 0;
                counts[1] += truth == null || truth == 0 ? 1 : 0;
                counts[2] += truth == null ? 1 : 0;
            }
            return counts[what];
        }

        private int query(int user, int kind) {
            int fault = takeText();
            boolean barred = fault == 0 && (latestFields & users.get(user).closed) != 0;
            audit.add(new int[] {user, kind, 0, 0, fault != 0 ? 3 : barred ? 2 : 0});
            return fault != 0 ? -10 - fault : barred ? -6 : 0;
        }

        int ask(int user) {
            if (noUser(user)) {
                return -1;
            }
            if (audit.size() == 150) {
                return -4;
            }
            int refusal = query(user, 0);
            if (refusal != 0) {
                return refusal;
            }
            matches = new ArrayList<>();
            for (int i = 0; i < objects.size(); i++) {
                if (isMatch(users.get(user), latest, i)) {
                    matches.add(i);
                }
            }
            return matches.size();
        }

        int found(int i) {
            return no(i, matches.size()) ? -1 : matches.get(i);
        }

        private boolean isHidden(ModelUser user, int object, int field) {
            return !isSeen(user, object) || (user.closed >> field & 1) == 1;
        }

        private boolean isSafe(ModelUser user, int field, int set) {
            List<Integer> with = new ArrayList<>(user.told.get(field));
            with.add(set);
            List<Fraction[]> after = reduced(with);
            List<Fraction[]> before = reduced(user.told.get(field));
            for (int i = 0; i < objects.size(); i++) {
                if (isHidden(user, i, field) && isSolved(after, i) && !isSolved(before, i)) {
                    return false;
                }
            }
            return true;
        }

        long value(int user, int object, int field) {
            if (noUser(user) || noObject(object) || no(field, 4)) {
                return OUT;
            }
            if (audit.size() == 150) {
                return TOO_LATE;
            }
            ModelUser u = users.get(user);
            boolean tells = !isHidden(u, object, field) && isSafe(u, field, 1 << object);
            audit.add(new int[] {user, 1, object, field, tells ? 0 : 1});
            return tells ? tell(u, field, 1 << object) : HIDDEN;
        }

        long sum(int user, int field, int set) {
            if (noUser(user) || no(field, 4) || badSet(set)) {
                return OUT;
            }
            if (audit.size() == 150) {
                return TOO_LATE;
            }
            ModelUser u = users.get(user);
            boolean tells = isSafe(u, field, set);
            audit.add(new int[] {user, 2, field, set, tells ? 0 : 1});
            return tells ? tell(u, field, set) : HIDDEN;
        }

        private boolean badSet(int set) {
            return set <= 0 || set >= 1 << objects.size();
        }

        private long tell(ModelUser user, int field, int set) {
            anybody = true;
            user.told.get(field).add(set);
            long total = 0;
            for (int i = 0; i < objects.size(); i++) {
                total += (set >> i & 1) * objects.get(i)[field];
            }
            return total;
        }

        int cell(int user, int field, int low, int high) {
            if (noUser(user) || no(field, 4)) {
                return -1;
            }
            if (high < low) {
                return -2;
            }
            if (audit.size() == 150) {
                return -4;
            }
            boolean barred = (users.get(user).closed >> field & 1) == 1;
            audit.add(new int[] {user, 3, field, low, barred ? 2 : 0});
            int count = 0;
            for (int i = 0; i < objects.size(); i++) {
                int v = objects.get(i)[field];
                count += isSeen(users.get(user), i) && low <= v && v <= high ? 1 : 0;
            }
            return barred ? -6 : count;
        }

        int cursor(int user) {
            if (noUser(user)) {
                return -1;
            }
            if (audit.size() == 150) {
                return -4;
            }
            int refusal = query(user, 4);
            if (refusal != 0) {
                return refusal;
            }
            ModelUser u = users.get(user);
            u.query = latest;
            u.queryFields = latestFields;
            u.position = -1;
            return 1;
        }

        int step(int user) {
            if (noUser(user)) {
                return -1;
            }
            ModelUser u = users.get(user);
            if (u.query == null) {
                return -5;
            }
            if (audit.size() == 150) {
                return -4;
            }
            boolean barred = (u.queryFields & u.closed) != 0;
            audit.add(new int[] {user, 5, 0, 0, barred ? 2 : 0});
            if (barred) {
                return -6;
            }
            do {
                u.position++;
            } while (u.position < objects.size() && !isMatch(u, u.query, u.position));
            if (u.position >= objects.size()) {
                u.position = objects.size() - 1;
                return -3;
            }
            return u.position;
        }

        /** Gauss and Jordan over all columns, as the book has it. */
        private List<Fraction[]> reduced(List<Integer> sets) {
            int n = objects.size();
            List<Fraction[]> rows = new ArrayList<>();
            for (int set : sets) {
                Fraction[] row = new Fraction[n];
                for (int i = 0; i < n; i++) {
                    row[i] = (set >> i & 1) == 1 ? Fraction.ONE : Fraction.ZERO;
                }
                rows.add(row);
            }
            int done = 0;
            for (int column = 0; column < n; column++) {
                int with = done;
                while (with < rows.size() && rows.get(with)[column].isZero()) {
                    with++;
                }
                if (with == rows.size()) {
                    continue;
                }
                Fraction[] pivot = rows.remove(with);
                rows.add(done, pivot);
                Fraction first = pivot[column];
                for (int i = 0; i < n; i++) {
                    pivot[i] = pivot[i].by(first);
                }
                for (Fraction[] row : rows) {
                    Fraction times = row[column];
                    for (int i = 0; row != pivot && i < n && !times.isZero(); i++) {
                        row[i] = row[i].minus(pivot[i].times(times));
                    }
                }
                done++;
            }
            return new ArrayList<>(rows.subList(0, done));
        }

        private static int pivotOf(Fraction[] row) {
            int i = 0;
            while (row[i].isZero()) {
                i++;
            }
            return i;
        }

        private static boolean isSolved(List<Fraction[]> rows, int object) {
            for (Fraction[] row : rows) {
                long others = Arrays.stream(row).filter(f -> !f.isZero()).count();
                if (others == 1 && row[object].isOne()) {
                    return true;
                }
            }
            return false;
        }

        int solved(int user, int field, int object) {
            if (noUser(user) || no(field, 4) || noObject(object)) {
                return -1;
            }
            return isSolved(reduced(users.get(user).told.get(field)), object) ? 1 : 0;
        }

        int would(int user, int field, int object, int set) {
            if (noUser(user) || no(field, 4) || noObject(object)) {
                return -1;
            }
            if (badSet(set)) {
                return -2;
            }
            List<Integer> with = new ArrayList<>(users.get(user).told.get(field));
            with.add(set);
            return isSolved(reduced(with), object) ? 1 : 0;
        }

        long world(int user, int field, int object, int k) {
            if (noUser(user) || no(field, 4) || noObject(object) || noObject(k)) {
                return -1;
            }
            List<Integer> sets = users.get(user).told.get(field);
            List<Fraction[]> rows = reduced(sets);
            if (isSolved(rows, object)) {
                return -5;
            }
            int free = object;
            for (Fraction[] row : rows) {
                if (pivotOf(row) == object) {
                    free = object + 1;
                    while (row[free].isZero()) {
                        free++;
                    }
                }
            }
            Fraction[] numbers = new Fraction[objects.size()];
            Arrays.fill(numbers, Fraction.ZERO);
            numbers[free] = Fraction.ONE;
            BigInteger least = BigInteger.ONE;
            for (Fraction[] row : rows) {
                Fraction number = Fraction.ZERO.minus(row[free]);
                numbers[pivotOf(row)] = number;
                least = least.multiply(number.under).divide(least.gcd(number.under));
            }
            long[] whole = new long[numbers.length];
            for (int i = 0; i < whole.length; i++) {
                whole[i] = numbers[i].over.multiply(least).divide(numbers[i].under).longValueExact();
            }
            mustTellTheSame(sets, whole, object);
            return whole[k];
        }

        /** The meaning of the whole: no sum that was told sees the other world, but the object does. */
        private static void mustTellTheSame(List<Integer> sets, long[] whole, int object) {
            for (int set : sets) {
                long total = 0;
                for (int i = 0; i < whole.length; i++) {
                    total += (set >> i & 1) * whole[i];
                }
                if (total != 0) {
                    throw new IllegalStateException("the model's other world tells another sum");
                }
            }
            if (whole[object] == 0) {
                throw new IllegalStateException("the model's other world leaves the object as it is");
            }
        }

        int rows(int user, int field) {
            return noUser(user) || no(field, 4) ? -1 : reduced(users.get(user).told.get(field)).size();
        }

        int audit(int i, int what) {
            return no(i, audit.size()) ? -1 : no(what, 5) ? -2 : audit.get(i)[what];
        }

        int told(int what) {
            if (no(what, 5)) {
                return -2;
            }
            return new int[] {objects.size(), users.size(), tape.size(), audit.size(), anybody ? 1 : 0}[what];
        }
    }
}
