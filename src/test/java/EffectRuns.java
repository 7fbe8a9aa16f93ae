import java.util.ArrayList;
import java.util.LinkedHashMap;
import java.util.List;
import java.util.Map;
import java.util.concurrent.atomic.AtomicInteger;
import java.util.function.Consumer;

/**
 * What each call changes, and that it changes nothing else: an object is brought to a state in which all that can be
 * told apart is, one call is made of it, told or refused, and then all that shows is looked at, on the class and on
 * the model side by side. As looks cost calls too, and some change what they look at, each look has an object of its
 * own.
 */
public final class EffectRuns {
    private static final int LOW = Integer.MIN_VALUE, HIGH = Integer.MAX_VALUE;
    private static final int[] USERS = {-1, 0, 1, 2, 3, 4, LOW, HIGH};
    private static final int[] OBJECTS = {-1, 0, 1, 2, 3, 4, 5, 11, 12, LOW, HIGH};
    private static final int[] FIELDS = {-1, 0, 1, 2, 3, 4, LOW, HIGH};
    private static final AtomicInteger WRONG = new AtomicInteger();

    private static final Map<String, Consumer<Both>> STATES = new LinkedHashMap<>();
    private static final Map<String, Consumer<Both>> CALLS = new LinkedHashMap<>();
    private static final Map<String, Consumer<Both>> LOOKS = new LinkedHashMap<>();

    /** With a word, only calls that have it are made. */
    public static void main(String[] args) {
        addStates();
        addCalls();
        addLooks();
        CALLS.keySet().removeIf(call -> args.length > 0 && !call.contains(args[0]));
        List<String[]> runs = new ArrayList<>();
        for (String state : STATES.keySet()) {
            for (String call : CALLS.keySet()) {
                for (String look : LOOKS.keySet()) {
                    runs.add(new String[] {state, call, look});
                }
            }
        }
        runs.parallelStream().filter(run -> WRONG.get() < 20).forEach(run -> go(run[0], run[1], run[2]));
        System.out.println(CALLS.size() + " calls in " + STATES.size() + " states by " + LOOKS.size() + " looks, " + WRONG.get() + " not as due");
        if (WRONG.get() != 0) {
            System.exit(1);
        }
    }

    private static void go(String state, String call, String look) {
        Both x = new Both();
        String wrong;
        try {
            STATES.get(state).accept(x);
            CALLS.get(call).accept(x);
            LOOKS.get(look).accept(x);
            wrong = x.difference();
        } catch (RuntimeException e) {
            wrong = "threw " + e + " behind " + x.calls() + " calls";
        }
        if (!wrong.isEmpty()) {
            WRONG.incrementAndGet();
            System.out.println(state + ", " + call + ", then " + look + ": " + wrong);
        }
    }

    // ---- the states

    private static void addStates() {
        STATES.put("a new object", x -> { });
        STATES.put("nobody was told", x -> nobodyTold(x, 5));
        STATES.put("some were told", x -> someTold(x, 5));
        STATES.put("twelve objects, nobody was told", EffectRuns::crowded);
        STATES.put("twelve objects, some were told", x -> someTold(x, 12));
        STATES.put("some were told, 298 bytes on the tape", EffectRuns::longTape);
        STATES.put("149 asks", x -> asked(x, 149));
        STATES.put("150 asks", x -> asked(x, 150));
        STATES.put("150 asks, nobody was told", x -> {
            nobodyTold(x, 5);
            askUpTo(x, 150);
        });
        STATES.put("cleared", EffectRuns::cleared);
    }

    /** Three users whose rights, cursors and closed fields differ, and no two objects alike. */
    private static void nobodyTold(Both x, int objects) {
        for (int i = 0; i < objects; i++) {
            x.object();
            x.set(i, 0, i + 2);
            x.set(i, 1, i == 1 ? 0 : 7 - i);
            x.set(i, 2, -1000 + i);
            x.set(i, 3, i % 2 * 1000);
        }
        for (int user = 0; user < 3; user++) {
            x.user();
        }
        x.rule(0, "a>2 and 6/b>0 or a=2");
        x.rule(1, "not a=4");
        x.rule(2, "true");
        x.cursor(0, "b>3");
        x.step(0);
        x.step(0);
        x.cursor(1, "a<4 or d=0");
        x.step(1);
        x.ask(2, "d=0 or a>5");
        x.close(0, 5);
        x.close(1, 2);
        x.cell(0, 1, -3, 5);
        x.rule(1, "a< ");
        x.write("a=3 or d=1000 ", 0);
    }

    private static void someTold(Both x, int objects) {
        nobodyTold(x, objects);
        x.sum(0, 0, 19);
        x.sum(0, 0, 13);
        x.sum(0, 1, 6);
        x.value(0, 0, 3);
        x.sum(1, 0, 31);
        x.value(1, 0, 0);
        x.sum(1, 1, 28);
        x.sum(1, 3, 3);
        x.sum(2, 2, 30);
        x.value(2, 4, 2);
    }

    private static void crowded(Both x) {
        nobodyTold(x, 12);
        x.user();
        x.type(0, 0);
        x.write("b=4 or d=0" + " ".repeat(286), 0);
    }

    private static void longTape(Both x) {
        someTold(x, 5);
        x.write(" ".repeat(298 - x.model.tape.size()), 0);
    }

    private static void asked(Both x, int entries) {
        someTold(x, 5);
        askUpTo(x, entries);
    }

    private static void askUpTo(Both x, int entries) {
        for (int i = x.model.audit.size(); i < entries; i++) {
            x.cell(2, 1, i, i);
        }
    }

    private static void cleared(Both x) {
        someTold(x, 5);
        x.clear();
        x.object();
        x.object();
        x.user();
        x.user();
        x.rule(1, "a=0");
    }

    // ---- the calls

    private static void addCalls() {
        CALLS.put("no call", x -> { });
        CALLS.put("object()", Both::object);
        CALLS.put("user()", Both::user);
        CALLS.put("place()", Both::place);
        CALLS.put("clear()", Both::clear);
        addCallsOfValues();
        addCallsOfTexts();
        addCallsOfSums();
        addCallsOfNumbers();
    }

    private static void addCallsOfValues() {
        int[] values = {-1001, -1000, 0, 77, 1000, 1001, LOW, HIGH};
        for (int object : OBJECTS) {
            CALLS.put("set(" + object + ", 1, 9)", x -> x.set(object, 1, 9));
            CALLS.put("set(" + object + ", 4, 9)", x -> x.set(object, 4, 9));
        }
        for (int field : FIELDS) {
            CALLS.put("set(2, " + field + ", 8)", x -> x.set(2, field, 8));
        }
        for (int v : values) {
            CALLS.put("set(1, 2, " + v + ")", x -> x.set(1, 2, v));
        }
        for (int user : USERS) {
            for (int object : OBJECTS) {
                CALLS.put("value(" + user + ", " + object + ", 0)", x -> x.value(user, object, 0));
            }
        }
        for (int field : FIELDS) {
            CALLS.put("value(0, 1, " + field + ")", x -> x.value(0, 1, field));
            CALLS.put("value(2, 4, " + field + ")", x -> x.value(2, 4, field));
        }
    }

    private static void addCallsOfTexts() {
        int[] counts = {-1, 0, 1, 2, 3, 4, 5, 8, 9, LOW, HIGH};
        for (int n : counts) {
            CALLS.put("type(.., " + n + ")", x -> x.type(0x2020312b303d6220L, n));
            CALLS.put("type(-1, " + n + ")", x -> x.type(-1, n));
        }
        String[] texts = {"", "a>3", "b=6 or true", "c<0", "d=0", "1/a=0 or b=2", "a", "  ?", "(".repeat(13), "false", "not a=1 and a<5"};
        for (int user : USERS) {
            CALLS.put("rule(" + user + ")", x -> x.rule(user));
            CALLS.put("ask(" + user + ")", x -> x.ask(user));
            CALLS.put("cursor(" + user + ")", x -> x.cursor(user));
            CALLS.put("step(" + user + ")", x -> x.step(user));
            CALLS.put("close(" + user + ", 11), step(" + user + ")", x -> {
                x.close(user, 11);
                x.step(user);
            });
            for (String text : texts) {
                CALLS.put("[" + text + "] rule(" + user + ")", x -> emptied(x).rule(user, text));
                CALLS.put("[" + text + "] ask(" + user + ")", x -> emptied(x).ask(user, text));
                CALLS.put("[" + text + "] cursor(" + user + ")", x -> emptied(x).cursor(user, text));
            }
        }
    }

    private static Both emptied(Both x) {
        x.type(0, 0);
        return x;
    }

    private static void addCallsOfSums() {
        int[] sets = {0, 1, 2, 3, 4, 6, 7, 13, 15, 16, 19, 28, 30, 31, 32, 33, 2048, 4095, 4096, 4097, -1, LOW, HIGH};
        for (int set : sets) {
            for (int user : new int[] {0, 1, 2}) {
                CALLS.put("sum(" + user + ", 0, " + set + ")", x -> x.sum(user, 0, set));
                CALLS.put("would(" + user + ", 0, 2, " + set + ")", x -> x.would(user, 0, 2, set));
            }
        }
        for (int user : USERS) {
            CALLS.put("sum(" + user + ", 1, 3)", x -> x.sum(user, 1, 3));
            CALLS.put("would(" + user + ", 1, 1, 3)", x -> x.would(user, 1, 1, 3));
        }
        for (int field : FIELDS) {
            CALLS.put("sum(2, " + field + ", 6)", x -> x.sum(2, field, 6));
            CALLS.put("would(2, " + field + ", 1, 6)", x -> x.would(2, field, 1, 6));
        }
        for (int object : OBJECTS) {
            CALLS.put("would(0, 0, " + object + ", 1)", x -> x.would(0, 0, object, 1));
            CALLS.put("solved(1, 0, " + object + ")", x -> x.solved(1, 0, object));
            CALLS.put("world(0, 0, " + object + ", 1)", x -> x.world(0, 0, object, 1));
            CALLS.put("world(0, 0, 1, " + object + ")", x -> x.world(0, 0, 1, object));
        }
    }

    private static void addCallsOfNumbers() {
        int[] numbers = {-2, -1, 0, 1, 2, 3, 4, 5, 6, 15, 16, 149, 150, LOW, HIGH};
        for (int n : numbers) {
            CALLS.put("found(" + n + ")", x -> x.found(n));
            CALLS.put("told(" + n + ")", x -> x.told(n));
            CALLS.put("audit(" + n + ", 1)", x -> x.audit(n, 1));
            CALLS.put("audit(0, " + n + ")", x -> x.audit(0, n));
            CALLS.put("seen(0, " + n + ")", x -> x.seen(0, n));
            CALLS.put("close(1, " + n + ")", x -> x.close(1, n));
            CALLS.put("cell(0, 1, " + n + ", 5)", x -> x.cell(0, 1, n, 5));
            CALLS.put("cell(2, 1, 3, " + n + ")", x -> x.cell(2, 1, 3, n));
        }
        for (int user : USERS) {
            CALLS.put("seen(" + user + ", 1)", x -> x.seen(user, 1));
            CALLS.put("close(" + user + ", 9)", x -> x.close(user, 9));
            CALLS.put("close(" + user + ", 16)", x -> x.close(user, 16));
            CALLS.put("cell(" + user + ", 0, -9, 9)", x -> x.cell(user, 0, -9, 9));
            CALLS.put("rows(" + user + ", 0)", x -> x.rows(user, 0));
            CALLS.put("solved(" + user + ", 0, 0)", x -> x.solved(user, 0, 0));
            CALLS.put("world(" + user + ", 0, 0, 0)", x -> x.world(user, 0, 0, 0));
        }
        for (int field : FIELDS) {
            CALLS.put("cell(0, " + field + ", -9, 9)", x -> x.cell(0, field, -9, 9));
            CALLS.put("rows(1, " + field + ")", x -> x.rows(1, field));
            CALLS.put("solved(1, " + field + ", 0)", x -> x.solved(1, field, 0));
            CALLS.put("world(1, " + field + ", 0, 0)", x -> x.world(1, field, 0, 0));
        }
    }

    // ---- the looks

    private static void addLooks() {
        LOOKS.put("all counts", EffectRuns::lookAtCounts);
        LOOKS.put("the AUDIT", EffectRuns::lookAtAudit);
        LOOKS.put("the worlds", EffectRuns::lookAtWorlds);
        LOOKS.put("the tape", EffectRuns::lookAtTape);
        LOOKS.put("the tape with a word behind it", EffectRuns::lookAtLongerTape);
        LOOKS.put("the rights", EffectRuns::lookAtRights);
        LOOKS.put("the cursors", EffectRuns::lookAtCursors);
        LOOKS.put("the values", EffectRuns::lookAtValues);
        LOOKS.put("what can come", EffectRuns::lookAtWhatCanCome);
    }

    private static void lookAtCounts(Both x) {
        for (int what = 0; what < 5; what++) {
            x.told(what);
        }
        x.place();
        for (int i = 0; i < 13; i++) {
            x.found(i);
        }
        for (int user = 0; user < 4; user++) {
            for (int what = 0; what < 3; what++) {
                x.seen(user, what);
            }
            for (int field = 0; field < 4; field++) {
                x.rows(user, field);
            }
        }
    }

    /** All entries, or the first and the latest ones where there are too many. */
    private static void lookAtAudit(Both x) {
        int entries = x.model.audit.size();
        for (int i = 0; i <= entries; i++) {
            for (int what = 0; (i < 12 || i > entries - 12) && what < 5; what++) {
                x.audit(i, what);
            }
        }
    }

    private static void lookAtWorlds(Both x) {
        int objects = x.model.objects.size();
        int fields = objects > 5 ? 2 : 4;
        for (int user = 0; user < 3; user++) {
            for (int field = 0; field < fields; field++) {
                for (int object = 0; object < 5; object++) {
                    for (int k = 0; k < 5 && x.calls() < 512; k++) {
                        x.world(user, field, object, k);
                    }
                }
            }
        }
    }

    private static void lookAtTape(Both x) {
        x.rule(2);
        x.place();
        lookAtMatches(x, 2);
        x.rule(2);
        x.place();
    }

    private static void lookAtLongerTape(Both x) {
        x.write("or b=3", 0);
        x.rule(1);
        x.place();
        lookAtMatches(x, 1);
    }

    private static void lookAtMatches(Both x, int user) {
        x.close(user, 0);
        x.ask(user, "true");
        for (int i = 0; i < 13; i++) {
            x.found(i);
        }
        for (int what = 0; what < 3; what++) {
            x.seen(user, what);
        }
    }

    private static void lookAtRights(Both x) {
        x.type(0, 0);
        for (int user = 0; user < 4; user++) {
            for (int field = 0; field < 4; field++) {
                x.sum(user, field, 4);
                x.cell(user, field, LOW, HIGH);
            }
            lookAtMatches(x, user);
        }
    }

    private static void lookAtCursors(Both x) {
        x.type(0, 0);
        for (int user = 0; user < 4; user++) {
            x.step(user);
            x.close(user, 0);
            x.rule(user, "true");
            for (int i = 0; i < 13 && x.step(user) >= 0; i++) {
                x.place();
            }
            x.object();
            x.step(user);
        }
    }

    /** By value(), and by RULES where the AUDIT is full. */
    private static void lookAtValues(Both x) {
        x.type(0, 0);
        x.user();
        x.close(0, 0);
        x.rule(0, "true");
        for (int field = 0; field < 4; field++) {
            for (int object = 0; object < x.model.objects.size(); object++) {
                x.value(0, object, field);
            }
        }
        String[] texts = {"a*a*a=8", "b=6", "c=-999", "d=0", "a+b=9", "c+b=7-1000", "a=9", "b=9", "c=9", "d=9", "a=0", "b=0"};
        for (String text : texts) {
            x.rule(0, text);
        }
    }

    private static void lookAtWhatCanCome(Both x) {
        x.type(0, 0);
        for (int i = 0; i < 13; i++) {
            x.object();
        }
        for (int user = 0; user < 5; user++) {
            x.user();
        }
        for (int user = 0; user < 4; user++) {
            x.step(user);
            x.close(user, 0);
            x.seen(user, 1);
            x.rows(user, 0);
            x.solved(user, 0, 0);
            x.rule(user, "a=0 and b=0 and c=0 and d=0");
            x.sum(user, 0, 1);
        }
        x.set(0, 0, 4);
        x.object();
        x.told(4);
    }
}
