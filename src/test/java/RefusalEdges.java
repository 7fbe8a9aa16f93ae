import java.util.function.Consumer;
import java.util.function.ToLongFunction;

/** The edges of the AUDIT (promise 21), and that each refused call changes nothing but what the document says. */
public final class RefusalEdges extends Edges {
    private static final int ASK = 0, VALUE = 1, SUM = 2, CELL = 3, CURSOR = 4, STEP = 5;
    private static final String[] KINDS = {"ask", "value", "sum", "cell", "cursor", "step"};

    public static void main(String[] args) {
        entries();
        limits();
        changesNothing();
        changesTheAuditAlone();
        end();
    }

    // ---- what goes into the AUDIT

    private static void entries() {
        edge(21, "each with the user, its kind, two numbers, and what it answered: 0 it told something", RefusalEdges::whatTold);
        edge(21, "1 HIDDEN, or KEPT BACK, 2 BARRED, 3 a FAULT", RefusalEdges::whatDidNotTell);
        edge(21, "two numbers: at their least and most", RefusalEdges::leastAndMostNumbers);
        edge(21, "what is refused by NONE, BAD, FULL, STATE does not", RefusalEdges::whatIsRefused);
        edge(21, "what is no ask does not", RefusalEdges::whatIsNoAsk);
        edge(21, "NONE, BAD", RefusalEdges::noSuchEntry);
    }

    private static void entry(Calls x, int i, int... numbers) {
        for (int what = 0; what < 5; what++) {
            due("audit(" + i + ", " + what + ")", x.audit(i, what), numbers[what]);
        }
    }

    private static void whatTold() {
        Calls x = Calls.with(4, 5, 6, 7);
        x.ask(0, "true");
        x.ask(1, "false");
        x.cursor(3, "c=0");
        x.step(3);
        x.cursor(2, "false");
        x.step(2);
        x.cell(1, 3, -7, 9);
        x.value(2, 1, 3);
        x.sum(3, 2, 6);
        due("entries", x.told(3), 9);
        entry(x, 0, 0, ASK, 0, 0, 0);
        entry(x, 1, 1, ASK, 0, 0, 0);
        entry(x, 2, 3, CURSOR, 0, 0, 0);
        entry(x, 3, 3, STEP, 0, 0, 0);
        entry(x, 4, 2, CURSOR, 0, 0, 0);
        entry(x, 5, 2, STEP, 0, 0, 0);
        entry(x, 6, 1, CELL, 3, -7, 0);
        entry(x, 7, 2, VALUE, 1, 3, 0);
        entry(x, 8, 3, SUM, 2, 6, 0);
    }

    private static void whatDidNotTell() {
        Calls x = Calls.with(2, 5, 6, 7);
        x.cursor(1, "c=0");
        x.sum(1, 2, 3);
        x.close(1, 4);
        x.ask(1, "c=0");
        x.ask(1, "?");
        x.ask(1, "c");
        x.ask(1, "(".repeat(13));
        x.cursor(1, "1=c");
        x.cursor(1, "");
        x.step(1);
        x.cell(1, 2, 1, 2);
        x.value(1, 0, 2);
        x.sum(1, 2, 4);
        x.rule(1, "b=0");
        x.close(1, 0);
        x.value(1, 2, 1);
        x.value(1, 0, 2);
        due("entries", x.told(3), 14);
        entry(x, 2, 1, ASK, 0, 0, 2);
        entry(x, 3, 1, ASK, 0, 0, 3);
        entry(x, 4, 1, ASK, 0, 0, 3);
        entry(x, 5, 1, ASK, 0, 0, 3);
        entry(x, 6, 1, CURSOR, 0, 0, 2);
        entry(x, 7, 1, CURSOR, 0, 0, 3);
        entry(x, 8, 1, STEP, 0, 0, 2);
        entry(x, 9, 1, CELL, 2, 1, 2);
        entry(x, 10, 1, VALUE, 0, 2, 1);
        entry(x, 11, 1, SUM, 2, 4, 1);
        entry(x, 12, 1, VALUE, 2, 1, 1);
        entry(x, 13, 1, VALUE, 0, 2, 1);
    }

    private static void leastAndMostNumbers() {
        Calls x = Calls.with(4, 1, 2, 3, 4, 5, 6, 7, 8, 9, 10, 11, 12);
        x.cell(0, 0, LOW, HIGH);
        x.cell(3, 3, HIGH, HIGH);
        x.cell(0, 1, LOW, LOW);
        x.value(0, 0, 0);
        x.value(3, 11, 3);
        x.sum(0, 0, 1);
        x.sum(3, 3, 4095);
        entry(x, 0, 0, CELL, 0, LOW, 0);
        entry(x, 1, 3, CELL, 3, HIGH, 0);
        entry(x, 2, 0, CELL, 1, LOW, 0);
        entry(x, 3, 0, VALUE, 0, 0, 0);
        entry(x, 4, 3, VALUE, 11, 3, 0);
        entry(x, 5, 0, SUM, 0, 1, 0);
        entry(x, 6, 3, SUM, 3, 4095, 0);
    }

    private static void whatIsRefused() {
        Calls x = Calls.with(1, 5, 6);
        x.write("true");
        due("ask: NONE", x.ask(1), NONE);
        due("cursor: NONE", x.cursor(1), NONE);
        due("cell: NONE", x.cell(1, 0, 0, 0), NONE);
        due("cell: NONE", x.cell(0, 4, 0, 0), NONE);
        due("cell: BAD", x.cell(0, 0, 1, 0), BAD);
        due("step: NONE", x.step(1), NONE);
        due("step: STATE", x.step(0), STATE);
        due("value: no user", x.value(1, 0, 0), OUT);
        due("value: no object", x.value(0, 2, 0), OUT);
        due("value: no FIELD", x.value(0, 0, 4), OUT);
        due("sum: no user", x.sum(1, 0, 1), OUT);
        due("sum: no FIELD", x.sum(0, 4, 1), OUT);
        due("sum: no set", x.sum(0, 0, 0), OUT);
        due("sum: no object", x.sum(0, 0, 4), OUT);
        due("entries", x.told(3), 0);
        due("audit(0, 0)", x.audit(0, 0), NONE);
    }

    private static void whatIsNoAsk() {
        Calls x = Calls.with(1, 5, 6);
        x.object();
        x.set(0, 0, 1);
        x.user();
        x.type(0, 1);
        x.rule(0);
        x.rule(0, "true");
        x.place();
        x.close(0, 1);
        x.seen(0, 0);
        x.found(0);
        x.solved(0, 0, 0);
        x.would(0, 0, 0, 1);
        x.world(0, 0, 0, 0);
        x.rows(0, 0);
        x.audit(0, 0);
        due("entries", x.told(3), 0);
    }

    private static void noSuchEntry() {
        Calls x = Calls.with(1, 5, 6);
        int[] bad = {-1, 5, 6, LOW, HIGH};
        due("audit(0, 0) of none", x.audit(0, 0), NONE);
        due("audit(0, 5) of none", x.audit(0, 5), NONE);
        x.cell(0, 0, 0, 0);
        x.cell(0, 0, 0, 0);
        int[] none = {-1, 2, 3, 149, 150, LOW, HIGH};
        for (int i : none) {
            for (int what = 0; what < 5; what++) {
                due("audit(" + i + ", " + what + ")", x.audit(i, what), NONE);
            }
            for (int what : bad) {
                due("NONE ahead of BAD", x.audit(i, what), NONE);
            }
        }
        for (int what : bad) {
            due("audit(0, " + what + ")", x.audit(0, what), BAD);
            due("audit(1, " + what + ")", x.audit(1, what), BAD);
        }
        due("the last of each", x.audit(1, 4), 0);
    }

    // ---- how much goes into it

    private static void limits() {
        edge(21, "the AUDIT has at most 150; asks then are FULL", RefusalEdges::hundredAndFifty);
        edge(21, "told or not: what is not told takes room, too", RefusalEdges::roomForWhatIsNotTold);
        edge(21, "all 150 entries", RefusalEdges::allEntries);
    }

    private static long askBy(Calls x, int kind) {
        switch (kind) {
            case ASK:
                return x.ask(0);
            case VALUE:
                return x.value(0, 1, 0);
            case SUM:
                return x.sum(0, 0, 2);
            case CELL:
                return x.cell(0, 0, 6, 6);
            case CURSOR:
                return x.cursor(0);
            default:
                return x.step(0);
        }
    }

    private static void hundredAndFifty() {
        long[] answers = {1, 6, 6, 1, 1, 1};
        long[] refusals = {FULL, LATE, LATE, FULL, FULL, FULL};
        for (int last = 0; last < 6; last++) {
            Calls x = Calls.with(1, 5, 6);
            x.cursor(0, "a=6");
            x.fillAudit(149);
            x.write("a=6");
            due("the 150th by " + KINDS[last], askBy(x, last), answers[last]);
            due("entries", x.told(3), 150);
            due("its kind", x.audit(149, 1), last);
            x.write("a=6");
            for (int kind = 0; kind < 6; kind++) {
                due("the 151st by " + KINDS[kind], askBy(x, kind), refusals[kind]);
            }
            due("entries", x.told(3), 150);
            due("its kind", x.audit(149, 1), last);
            due("audit(150, 0)", x.audit(150, 0), NONE);
            due("the tape stays", x.told(2), 3);
        }
    }

    private static void roomForWhatIsNotTold() {
        for (int kind = 0; kind < 6; kind++) {
            Calls x = Calls.with(1, 5, 6);
            x.cursor(0, "a=6");
            x.close(0, 1);
            x.fillAudit(149);
            x.write(kind == CURSOR ? "?" : "a=6");
            long want = kind == VALUE || kind == SUM ? KEPT : kind == CURSOR ? FAULT_1 : BARRED;
            due("the 150th by " + KINDS[kind], askBy(x, kind), want);
            due("entries", x.told(3), 150);
            due("cell", x.cell(0, 1, 0, 0), FULL);
            due("what it answered", x.audit(149, 4), kind == VALUE || kind == SUM ? 1 : kind == CURSOR ? 3 : 2);
        }
    }

    private static void allEntries() {
        Calls x = Calls.with(1, 5, 6);
        for (int i = 0; i < 150; i++) {
            due("cell", x.cell(0, 0, i - 75, HIGH), i - 75 <= 5 ? 2 : i - 75 == 6 ? 1 : 0);
        }
        due("entries", x.told(3), 150);
        for (int i = 0; i < 150; i++) {
            due("audit(" + i + ", 3)", x.audit(i, 3), i - 75);
        }
    }

    // ---- what refused calls change: nothing

    /** Objects, rights, a cursor, matches, a fault, a tape, and nobody was TOLD. */
    private static void open(Calls x) {
        for (int i = 0; i < 4; i++) {
            x.object();
            x.set(i, 0, i + 2);
            x.set(i, 1, i);
        }
        x.user();
        x.user();
        x.rule(0, "a>2 or 1/b=0");
        x.rule(1, "true");
        x.close(1, 2);
        x.ask(1, "a>3");
        x.cursor(0, "a>2");
        x.cursor(1, "true");
        x.step(1);
        x.rule(1, "   ?");
        x.write("(a>3 or d=1");
    }

    private static void told(Calls x) {
        open(x);
        x.sum(0, 0, 3);
        x.value(1, 3, 0);
    }

    private static void full(Calls x) {
        told(x);
        x.fillAudit(150);
    }

    private static void crowded(Calls x) {
        open(x);
        x.objects(8);
        x.user();
        x.user();
        x.write("a>3 or d=1" + " ".repeat(288));
    }

    private static void refused(int promise, String call, Consumer<Calls> state, ToLongFunction<Calls> made, long want) {
        edge(promise, "refusals change nothing: " + call, () -> {
            Twins twins = new Twins(state);
            due(call, made.applyAsLong(twins.refused), want);
            String difference = twins.difference(-1);
            due(difference.isEmpty() ? "no difference" : "behind it " + difference, difference.isEmpty() ? 0 : 1, 0);
        });
    }

    private static void changesNothing() {
        ofObjects();
        ofTexts();
        ofAsks();
        ofFullAudits();
        ofLooks();
    }

    private static void ofObjects() {
        refused(2, "object(), the 13th", RefusalEdges::crowded, x -> x.object(), FULL);
        refused(2, "object(), once TOLD", RefusalEdges::told, x -> x.object(), STATE);
        refused(3, "set(4, 0, 9)", RefusalEdges::open, x -> x.set(4, 0, 9), NONE);
        refused(3, "set(-1, 0, 9)", RefusalEdges::open, x -> x.set(-1, 0, 9), NONE);
        refused(3, "set(0, 4, 9)", RefusalEdges::open, x -> x.set(0, 4, 9), NONE);
        refused(3, "set(1, -1, 9)", RefusalEdges::open, x -> x.set(1, -1, 9), NONE);
        refused(3, "set(1, 0, 1001)", RefusalEdges::open, x -> x.set(1, 0, 1001), BAD);
        refused(3, "set(1, 0, -1001)", RefusalEdges::open, x -> x.set(1, 0, -1001), BAD);
        refused(3, "set(1, 0, 9), once TOLD", RefusalEdges::told, x -> x.set(1, 0, 9), STATE);
        refused(4, "user(), the 5th", RefusalEdges::crowded, x -> x.user(), FULL);
        refused(8, "close(2, 1)", RefusalEdges::open, x -> x.close(2, 1), NONE);
        refused(8, "close(-1, 1)", RefusalEdges::open, x -> x.close(-1, 1), NONE);
        refused(8, "close(1, 16)", RefusalEdges::open, x -> x.close(1, 16), BAD);
        refused(8, "close(1, -1)", RefusalEdges::open, x -> x.close(1, -1), BAD);
    }

    private static void ofTexts() {
        refused(5, "type(.., 9)", RefusalEdges::open, x -> x.type(0x3030303030303030L, 9), BAD);
        refused(5, "type(.., -1)", RefusalEdges::open, x -> x.type(0x30, -1), BAD);
        refused(5, "type(.., 3) at 298", RefusalEdges::crowded, x -> x.type(0x303030, 3), FULL);
        refused(6, "rule(2)", RefusalEdges::open, x -> x.rule(2), NONE);
        refused(6, "rule(-1)", RefusalEdges::open, x -> x.rule(-1), NONE);
        refused(10, "ask(2)", RefusalEdges::open, x -> x.ask(2), NONE);
        refused(10, "ask(-1)", RefusalEdges::open, x -> x.ask(-1), NONE);
        refused(15, "cursor(2)", RefusalEdges::open, x -> x.cursor(2), NONE);
        refused(15, "cursor(-1)", RefusalEdges::open, x -> x.cursor(-1), NONE);
        refused(9, "seen(2, 0)", RefusalEdges::open, x -> x.seen(2, 0), NONE);
        refused(9, "seen(0, 3)", RefusalEdges::open, x -> x.seen(0, 3), BAD);
        refused(11, "found(2)", RefusalEdges::open, x -> x.found(2), NONE);
    }

    private static void ofAsks() {
        refused(12, "value(2, 1, 0)", RefusalEdges::open, x -> x.value(2, 1, 0), OUT);
        refused(12, "value(0, 4, 0)", RefusalEdges::open, x -> x.value(0, 4, 0), OUT);
        refused(12, "value(0, 1, 4)", RefusalEdges::open, x -> x.value(0, 1, 4), OUT);
        refused(13, "sum(2, 0, 3)", RefusalEdges::open, x -> x.sum(2, 0, 3), OUT);
        refused(13, "sum(0, 4, 3)", RefusalEdges::open, x -> x.sum(0, 4, 3), OUT);
        refused(13, "sum(0, 0, 0)", RefusalEdges::open, x -> x.sum(0, 0, 0), OUT);
        refused(13, "sum(0, 0, 17)", RefusalEdges::open, x -> x.sum(0, 0, 17), OUT);
        refused(13, "sum(0, 0, -1)", RefusalEdges::told, x -> x.sum(0, 0, -1), OUT);
        refused(14, "cell(2, 0, 0, 9)", RefusalEdges::open, x -> x.cell(2, 0, 0, 9), NONE);
        refused(14, "cell(0, 4, 0, 9)", RefusalEdges::open, x -> x.cell(0, 4, 0, 9), NONE);
        refused(14, "cell(0, 0, 9, 0)", RefusalEdges::open, x -> x.cell(0, 0, 9, 0), BAD);
        refused(16, "step(2)", RefusalEdges::open, x -> x.step(2), NONE);
        refused(16, "step(2) without a cursor", RefusalEdges::crowded, x -> x.step(2), STATE);
    }

    private static void ofFullAudits() {
        refused(10, "ask(1), the 151st", RefusalEdges::full, x -> x.ask(1), FULL);
        refused(12, "value(1, 1, 0), the 151st", RefusalEdges::full, x -> x.value(1, 1, 0), LATE);
        refused(13, "sum(1, 0, 6), the 151st", RefusalEdges::full, x -> x.sum(1, 0, 6), LATE);
        refused(14, "cell(0, 0, 0, 9), the 151st", RefusalEdges::full, x -> x.cell(0, 0, 0, 9), FULL);
        refused(15, "cursor(1), the 151st", RefusalEdges::full, x -> x.cursor(1), FULL);
        refused(16, "step(1), the 151st", RefusalEdges::full, x -> x.step(1), FULL);
    }

    private static void ofLooks() {
        refused(17, "solved(2, 0, 0)", RefusalEdges::told, x -> x.solved(2, 0, 0), NONE);
        refused(17, "solved(0, 4, 0)", RefusalEdges::told, x -> x.solved(0, 4, 0), NONE);
        refused(17, "solved(0, 0, 4)", RefusalEdges::told, x -> x.solved(0, 0, 4), NONE);
        refused(18, "would(2, 0, 0, 1)", RefusalEdges::told, x -> x.would(2, 0, 0, 1), NONE);
        refused(18, "would(0, 0, 4, 1)", RefusalEdges::told, x -> x.would(0, 0, 4, 1), NONE);
        refused(18, "would(0, 0, 0, 0)", RefusalEdges::told, x -> x.would(0, 0, 0, 0), BAD);
        refused(18, "would(0, 0, 0, 16)", RefusalEdges::told, x -> x.would(0, 0, 0, 16), BAD);
        refused(18, "would(0, 0, 0, 1), which is no refusal", RefusalEdges::told, x -> x.would(0, 0, 0, 1), 1);
        refused(19, "world(2, 0, 0, 0)", RefusalEdges::told, x -> x.world(2, 0, 0, 0), NONE);
        refused(19, "world(0, 0, 0, 4)", RefusalEdges::told, x -> x.world(0, 0, 0, 4), NONE);
        refused(19, "world(1, 0, 3, 0)", RefusalEdges::told, x -> x.world(1, 0, 3, 0), STATE);
        refused(20, "rows(2, 0)", RefusalEdges::told, x -> x.rows(2, 0), NONE);
        refused(20, "rows(0, 4)", RefusalEdges::told, x -> x.rows(0, 4), NONE);
        refused(21, "audit(7, 0)", RefusalEdges::told, x -> x.audit(7, 0), NONE);
        refused(21, "audit(0, 5)", RefusalEdges::told, x -> x.audit(0, 5), BAD);
        refused(22, "told(5)", RefusalEdges::told, x -> x.told(5), BAD);
    }

    // ---- what asks change that tell nothing: the AUDIT, and a tape that was taken

    /** The other twin does what leaves the same entries, tape and place, so that all else must be alike. */
    private static void kept(int promise, String call, Consumer<Calls> state, ToLongFunction<Calls> made, long want, Consumer<Calls> alike) {
        edge(promise, "told nothing, changes nothing else: " + call, () -> {
            Twins twins = new Twins(state);
            int entry = twins.refused.told(3);
            due(call, made.applyAsLong(twins.refused), want);
            due("entries", twins.refused.told(3), entry + 1);
            alike.accept(twins.other);
            String difference = twins.difference(entry);
            due(difference.isEmpty() ? "no difference" : "behind it " + difference, difference.isEmpty() ? 0 : 1, 0);
        });
    }

    private static void anEntry(Calls x) {
        x.cell(0, 3, 0, 0);
    }

    /** A text of the same FAULT that is a RULE, which stays, and an entry. */
    private static Consumer<Calls> anEntryAndFault(String text) {
        return x -> {
            x.rule(0, text);
            anEntry(x);
        };
    }

    /** As it was BARRED its text was taken, and had no FAULT: as with a RULE that is the one that there is. */
    private static void anEntryAndText(Calls x) {
        x.rule(0, "a>2 or 1/b=0");
        anEntry(x);
    }

    private static void changesTheAuditAlone() {
        kept(12, "value(1, 0, 1), HIDDEN", RefusalEdges::open, x -> x.value(1, 0, 1), KEPT, RefusalEdges::anEntry);
        kept(12, "value(0, 0, 1), not SEEN", RefusalEdges::told, x -> x.value(0, 0, 1), KEPT, RefusalEdges::anEntry);
        kept(12, "value(0, 1, 0), KEPT BACK", RefusalEdges::told, x -> x.value(0, 1, 0), KEPT, RefusalEdges::anEntry);
        kept(13, "sum(1, 1, 4), KEPT BACK", RefusalEdges::open, x -> x.sum(1, 1, 4), KEPT, RefusalEdges::anEntry);
        kept(13, "sum(0, 0, 2), KEPT BACK", RefusalEdges::told, x -> x.sum(0, 0, 2), KEPT, RefusalEdges::anEntry);
        kept(14, "cell(1, 1, 0, 9), BARRED", RefusalEdges::open, x -> x.cell(1, 1, 0, 9), BARRED, RefusalEdges::anEntry);
        kept(16, "step(0), BARRED", RefusalEdges::closedToAll, x -> x.step(0), BARRED, RefusalEdges::anEntry);
        kept(10, "ask(1), BARRED", RefusalEdges::open, x -> x.ask(1, "b=1"), BARRED, RefusalEdges::anEntryAndText);
        kept(15, "cursor(1), BARRED", RefusalEdges::open, x -> x.cursor(1, "b=1"), BARRED, RefusalEdges::anEntryAndText);
        kept(10, "ask(1), a FAULT", RefusalEdges::open, x -> x.ask(1, "a=4 or"), FAULT_2, anEntryAndFault("a=4 or"));
        kept(15, "cursor(1), a FAULT", RefusalEdges::open, x -> x.cursor(1, "a=4 or ?"), FAULT_1, anEntryAndFault("a=4 or ?"));
        kept(15, "cursor(0), a FAULT", RefusalEdges::told, x -> x.cursor(0, "(".repeat(13)), FAULT_3, anEntryAndFault("(".repeat(13)));
        edge(6, "a FAULT empties the tape, and the RULE stays", RefusalEdges::faultyRule);
    }

    private static void closedToAll(Calls x) {
        open(x);
        x.close(0, 7);
        x.close(1, 7);
    }

    private static void faultyRule() {
        Twins twins = new Twins(RefusalEdges::open);
        due("rule(1) of a FAULT", twins.refused.rule(1, "true or ("), FAULT_2);
        due("rule(0) of the same FAULT", twins.other.rule(0, "false or("), FAULT_2);
        String difference = twins.difference(-1);
        due(difference.isEmpty() ? "no difference" : "behind it " + difference, difference.isEmpty() ? 0 : 1, 0);
    }
}
