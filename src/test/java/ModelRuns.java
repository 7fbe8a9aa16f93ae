import java.util.Random;
import java.util.concurrent.atomic.AtomicInteger;
import java.util.stream.IntStream;

/**
 * Long runs of calls, made from fixed seeds, on the class and on a plain model of the document side by side.
 */
public final class ModelRuns {
    private static final int RUNS = 6000;
    private static final int CALLS = 512;
    /** Of one round at most: a text of 310 bytes, what takes it, and its place. */
    private static final int ROUND = 42;
    private static final AtomicInteger WRONG = new AtomicInteger();

    public static void main(String[] args) {
        IntStream.range(0, RUNS).parallel().filter(seed -> WRONG.get() < 10).forEach(seed -> new Run(seed).go());
        int wrong = WRONG.get();
        System.out.println(wrong == 0 ? RUNS + " runs answer as the model does" : wrong + " runs differ from the model");
        if (wrong != 0) {
            System.exit(1);
        }
    }

    /** One run: its seed also says how many objects and users it likes. */
    private static final class Run {
        final int seed;
        final Random random;
        final Both x = new Both();

        Run(int seed) {
            this.seed = seed;
            this.random = new Random(seed);
        }

        void go() {
            String wrong;
            try {
                prepare();
                while (x.isSame() && x.calls() + ROUND <= CALLS) {
                    call();
                }
                wrong = x.difference();
            } catch (RuntimeException e) {
                wrong = "threw " + e + " behind " + x.calls() + " calls";
            }
            if (!wrong.isEmpty()) {
                WRONG.incrementAndGet();
                System.out.println("run " + seed + ": " + wrong);
            }
        }

        private void prepare() {
            int objects = isDense() ? 12 : random.nextInt(13);
            for (int i = 0; i < objects; i++) {
                x.object();
                for (int field = 0; field < 4; field++) {
                    x.set(i, field, random.nextInt(7) - 3);
                }
            }
            int users = isDense() ? 1 : random.nextInt(4) + (seed % 5 == 0 ? 0 : 1);
            for (int i = 0; i < users; i++) {
                x.user();
            }
        }

        /** Every tenth run is for one user who is told much of one field: there the fractions grow. */
        private boolean isDense() {
            return seed % 10 == 9;
        }

        private int near(int from, int to) {
            return random.nextInt(40) == 0 ? (random.nextBoolean() ? from - 1 - random.nextInt(3) : to + random.nextInt(3))
                    : from + random.nextInt(Math.max(1, to - from));
        }

        private int user() {
            return near(0, x.model.users.size());
        }

        private int field() {
            return random.nextInt(isDense() ? 50 : 3) == 0 ? near(0, 4) : 0;
        }

        private int object() {
            return near(0, x.model.objects.size());
        }

        private int set() {
            int set = random.nextInt(1 << Math.max(1, x.model.objects.size()));
            return random.nextInt(50) == 0 ? random.nextInt() : set;
        }

        private int newValue() {
            return random.nextInt(5) == 0 ? random.nextInt(2100) - 1050 : random.nextInt(60) == 0 ? random.nextInt() : random.nextInt(7) - 3;
        }

        private void call() {
            int user = user();
            int which = isDense() && random.nextInt(3) != 0 ? 460 + random.nextInt(440) : random.nextInt(1000);
            if (which < 3 && seed % 3 == 0) {
                x.clear();
            } else if (which < 30) {
                x.object();
            } else if (which < 60) {
                x.set(object(), field(), newValue());
            } else if (which < 80) {
                x.user();
            } else if (which < 320) {
                textCall(user);
            } else if (which < 340) {
                x.place();
            } else if (which < 380) {
                x.close(user, near(0, 16));
            } else if (which < 410) {
                x.seen(user, near(0, 3));
            } else if (which < 430) {
                x.found(near(0, 8));
            } else if (which < 460) {
                x.value(user, object(), field());
            } else if (which < 600) {
                x.sum(user, field(), set());
            } else {
                otherCall(which, user);
            }
        }

        private void otherCall(int which, int user) {
            if (which < 630) {
                x.cell(user, field(), random.nextInt(10) - 5, random.nextInt(10) - 3);
            } else if (which < 670) {
                x.step(user);
            } else if (which < 720) {
                x.solved(user, field(), object());
            } else if (which < 770) {
                x.would(user, field(), object(), set());
            } else if (which < 900) {
                x.world(user, field(), object(), object());
            } else if (which < 930) {
                x.rows(user, field());
            } else if (which < 970) {
                x.audit(near(0, x.model.audit.size()), near(0, 5));
            } else {
                x.told(near(0, 5));
            }
        }

        private void textCall(int user) {
            if (random.nextInt(8) != 0) {
                typeText(new Texts(random).text());
            }
            if (random.nextInt(30) == 0) {
                x.type(random.nextLong(), near(0, 9));
                return;
            }
            int taker = random.nextInt(3);
            if (taker == 0) {
                x.rule(user);
            } else if (taker == 1) {
                x.ask(user);
            } else {
                x.cursor(user);
            }
            x.place();
        }

        private void typeText(String text) {
            if (random.nextInt(10) != 0) {
                x.type(0, 0);
            }
            x.write(text, random.nextInt());
        }
    }

    /** Texts that follow the grammar, some of them spoilt afterwards. */
    private static final class Texts {
        private final Random random;
        private final StringBuilder out = new StringBuilder();

        Texts(Random random) {
            this.random = random;
        }

        String text() {
            int sort = random.nextInt(24);
            if (sort == 0) {
                deep();
            } else if (sort == 1) {
                wide();
            } else {
                any(random.nextInt(4));
            }
            int spoils = random.nextInt(3) == 0 ? 1 + random.nextInt(2) : 0;
            for (int i = 0; i < spoils; i++) {
                spoil();
            }
            return out.length() > 310 ? out.substring(0, 310) : out.toString();
        }

        private void put(String token) {
            boolean joins = out.length() > 0 && Character.isLetterOrDigit(out.charAt(out.length() - 1))
                    && Character.isLetterOrDigit(token.charAt(0));
            if (joins || random.nextInt(6) == 0) {
                out.append(' ');
            }
            out.append(token);
        }

        /** Twelve to fourteen brackets and nots within one another. */
        private void deep() {
            int levels = 12 + random.nextInt(3);
            int open = 0;
            for (int i = 0; i < levels; i++) {
                boolean bracket = random.nextBoolean();
                put(bracket ? "(" : "not");
                open += bracket ? 1 : 0;
            }
            one(0);
            for (int i = 0; i < open; i++) {
                if (random.nextInt(3) == 0) {
                    put("and");
                    one(1);
                }
                put(")");
            }
        }

        /** Some sixty tokens. */
        private void wide() {
            int tokens = 57 + random.nextInt(7);
            put("a");
            put("<");
            for (int i = 2; i < tokens; i++) {
                put(i % 2 == 0 ? "b" : "+");
            }
        }

        private void any(int depth) {
            all(depth);
            while (random.nextInt(3) == 0) {
                put("or");
                all(depth);
            }
        }

        private void all(int depth) {
            one(depth);
            while (random.nextInt(3) == 0) {
                put("and");
                one(depth);
            }
        }

        private void one(int depth) {
            int sort = random.nextInt(depth > 0 ? 10 : 7);
            if (sort == 0) {
                put("true");
            } else if (sort == 1) {
                put("false");
            } else if (sort < 7) {
                sum();
                put(random.nextInt(3) == 0 ? "=" : random.nextBoolean() ? "<" : ">");
                sum();
            } else if (sort == 7) {
                put("not");
                one(depth - 1);
            } else {
                put("(");
                any(depth - 1);
                put(")");
            }
        }

        private void sum() {
            leaf();
            while (random.nextInt(3) == 0) {
                put("" + "+-*/".charAt(random.nextInt(4)));
                leaf();
            }
        }

        private void leaf() {
            int sort = random.nextInt(10);
            if (sort < 6) {
                put("" + "aaabcd".charAt(sort));
            } else if (sort < 9) {
                put("" + random.nextInt(random.nextInt(4) == 0 ? 10000 : 5));
            } else {
                put("-");
                leaf();
            }
        }

        private void spoil() {
            String marks = "abcdeornt0123 ()+-*/<=>A~\u00ff\u0000";
            char mark = marks.charAt(random.nextInt(marks.length()));
            int at = random.nextInt(out.length() + 1);
            if (at == out.length() || random.nextInt(3) == 0) {
                out.insert(at, mark);
            } else if (random.nextBoolean()) {
                out.deleteCharAt(at);
            } else {
                out.setCharAt(at, mark);
            }
        }
    }
}
