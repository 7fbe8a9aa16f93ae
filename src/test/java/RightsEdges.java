/** The edges of objects, users, rights and the asks that tell no sums: promises 1 to 4, 8 to 11, 14 to 16, 22 and 23. */
public final class RightsEdges extends Edges {
    private static final String[] FIELDS = {"a", "b", "c", "d"};

    public static void main(String[] args) {
        objects();
        values();
        users();
        closedFields();
        seenObjects();
        asks();
        matches();
        cells();
        cursors();
        steps();
        counts();
        clears();
        end();
    }

    // ---- promises 1 and 2

    private static void objects() {
        edge(1, "no objects, no users, an empty tape", RightsEdges::newObject);
        edge(1, "a new object is nothing of another", RightsEdges::apart);
        edge(1, "an object is used for at most 512 calls after it has been made", RightsEdges::lastCalls);
        edge(2, "OBJECTS 0, 1, .. (12 at most); FULL", RightsEdges::twelveObjects);
        edge(2, "as soon as anybody was TOLD anything no object comes (STATE)", RightsEdges::noObjectOnceTold);
        edge(2, "other asks tell none", RightsEdges::objectsAsLongAsNoneWasTold);
        edge(2, "STATE, FULL: the first that fits", RightsEdges::stateAheadOfFull);
        edge(2, "a value 0 at first in each of the FIELDS", RightsEdges::zeroAtFirst);
    }

    private static void isNew(Calls x) {
        for (int what = 0; what < 5; what++) {
            due("told(" + what + ")", x.told(what), 0);
        }
        due("place()", x.place(), NONE);
        due("found(0)", x.found(0), NONE);
        due("audit(0, 0)", x.audit(0, 0), NONE);
        due("set(0, 0, 0)", x.set(0, 0, 0), NONE);
        due("seen(0, 0)", x.seen(0, 0), NONE);
        due("close(0, 0)", x.close(0, 0), NONE);
        due("ask(0)", x.ask(0), NONE);
        due("cursor(0)", x.cursor(0), NONE);
        due("step(0)", x.step(0), NONE);
        due("cell(0, 0, 0, 0)", x.cell(0, 0, 0, 0), NONE);
        due("value(0, 0, 0)", x.value(0, 0, 0), OUT);
        due("sum(0, 0, 1)", x.sum(0, 0, 1), OUT);
        due("solved(0, 0, 0)", x.solved(0, 0, 0), NONE);
        due("would(0, 0, 0, 1)", x.would(0, 0, 0, 1), NONE);
        due("world(0, 0, 0, 0)", x.world(0, 0, 0, 0), NONE);
        due("rows(0, 0)", x.rows(0, 0), NONE);
        due("rule(0)", x.rule(0), NONE);
        due("object()", x.object(), 0);
        due("user()", x.user(), 0);
        due("the tape is an empty text", x.rule(0), FAULT_2);
        due("place()", x.place(), 0);
    }

    private static void newObject() {
        isNew(new Calls());
    }

    private static void apart() {
        Calls x = new Calls();
        Calls other = Calls.with(2, 5, 6, 7);
        other.ask(0, "true");
        other.sum(0, 0, 3);
        other.rule(1, " ?");
        other.write("true");
        isNew(x);
        due("the other's objects", other.told(0), 3);
        due("the other's tape", other.told(2), 4);
        due("the other's place()", other.place(), 1);
        isNew(new Calls());
    }

    /** Calls 1 to 19 make what there is, and the last six of 512 use it. */
    private static void lastCalls() {
        Calls x = Calls.with(2, 5, 6, 7);
        x.write("a>5");
        int made = 3 * 3 + 2 * 4 + 2;
        for (int i = made; i < 506; i++) {
            due("told(0)", x.told(0), 3);
        }
        due("call 507: ask", x.ask(0), 2);
        due("call 508: found", x.found(1), 2);
        due("call 509: sum", x.sum(0, 0, 6), 13);
        due("call 510: value", x.value(0, 1, 0), 6);
        due("call 511: solved", x.solved(0, 0, 2), 1);
        due("call 512: told", x.told(3), 3);
    }

    private static void twelveObjects() {
        Calls x = new Calls();
        for (int i = 0; i < 12; i++) {
            due("told(0)", x.told(0), i);
            due("set(" + i + ", 0, 1) ahead of it", x.set(i, 0, 1), NONE);
            due("object()", x.object(), i);
            due("set(" + i + ", 0, 1) behind it", x.set(i, 0, 1), 1);
        }
        due("the 13th", x.object(), FULL);
        due("told(0)", x.told(0), 12);
        due("the 13th again", x.object(), FULL);
        due("set(12, 0, 1)", x.set(12, 0, 1), NONE);
        x.user();
        due("all are as they were", x.rule(0, "a=1"), 12);
    }

    private static void noObjectOnceTold() {
        Calls x = Calls.with(2, 5, 6);
        due("object() ahead of it", x.object(), 2);
        due("value()", x.value(1, 0, 3), 0);
        due("object() once one value of one FIELD was TOLD to one user", x.object(), STATE);
        due("told(0)", x.told(0), 3);
        Calls y = Calls.with(1, 5, 6);
        due("sum()", y.sum(0, 0, 3), 11);
        due("object()", y.object(), STATE);
        due("told(0)", y.told(0), 2);
    }

    private static void objectsAsLongAsNoneWasTold() {
        Calls x = Calls.with(1, 5, 6);
        x.ask(0, "true");
        due("object() behind ask()", x.object(), 2);
        x.cell(0, 0, 0, 9);
        due("object() behind cell()", x.object(), 3);
        x.cursor(0, "true");
        x.step(0);
        due("object() behind step()", x.object(), 4);
        x.close(0, 1);
        due("HIDDEN", x.value(0, 0, 0), KEPT);
        due("object() behind it", x.object(), 5);
        due("KEPT BACK", x.sum(0, 0, 1), KEPT);
        due("object() behind it", x.object(), 6);
        x.ask(0, "a=1");
        x.ask(0, "?");
        x.would(0, 0, 0, 3);
        x.world(0, 0, 0, 0);
        x.solved(0, 0, 0);
        due("object() behind all that tells none", x.object(), 7);
        due("value() that is not there", x.value(0, 12, 0), OUT);
        due("sum() of nothing", x.sum(0, 0, 0), OUT);
        due("object() behind them", x.object(), 8);
        due("set() behind them", x.set(0, 0, 1), 1);
        due("told(4)", x.told(4), 0);
    }

    private static void stateAheadOfFull() {
        Calls x = Calls.with(1, 1, 2, 3, 4, 5, 6, 7, 8, 9, 10, 11, 12);
        due("the 13th", x.object(), FULL);
        due("value()", x.value(0, 0, 0), 1);
        due("the 13th once TOLD", x.object(), STATE);
    }

    private static void zeroAtFirst() {
        Calls x = new Calls();
        x.objects(12);
        x.user();
        due("all values are 0", x.rule(0, "a=0 and b=0 and c=0 and d=0"), 12);
        for (int object = 0; object < 12; object++) {
            for (int field = 0; field < 4; field++) {
                due("value(0, " + object + ", " + field + ")", x.value(0, object, field), 0);
            }
        }
    }

    // ---- promise 3

    private static void values() {
        edge(3, "- 1000 to 1000; BAD", RightsEdges::valueBounds);
        edge(3, "NONE: no such object, no such FIELD", RightsEdges::noSuchValue);
        edge(3, "an object's value in a FIELD becomes v: that one alone", RightsEdges::oneValueAlone);
        edge(3, "once TOLD no value changes any more (STATE)", RightsEdges::noChangeOnceTold);
        edge(3, "NONE; BAD; STATE: the first that fits", RightsEdges::orderOfSet);
    }

    private static void valueBounds() {
        int[] taken = {-1000, -999, -1, 0, 1, 999, 1000};
        for (int v : taken) {
            Calls x = Calls.with(1, 5);
            due("set(0, 0, " + v + ")", x.set(0, 0, v), 1);
            due("value", x.value(0, 0, 0), v);
        }
        int[] refused = {-1001, 1001, -2000, 2000, 65536, LOW, HIGH};
        for (int v : refused) {
            Calls x = Calls.with(1, 5);
            due("set(0, 0, " + v + ")", x.set(0, 0, v), BAD);
            due("value", x.value(0, 0, 0), 5);
        }
    }

    private static void noSuchValue() {
        int[][] wrong = {{-1, 0}, {2, 0}, {3, 0}, {12, 0}, {LOW, 0}, {HIGH, 0}, {0, -1}, {0, 4}, {1, 5}, {0, LOW}, {0, HIGH}, {2, 4}, {-1, -1}, {-1, 4}};
        for (int[] at : wrong) {
            Calls x = Calls.with(1, 5, 6);
            due("set(" + at[0] + ", " + at[1] + ", 9)", x.set(at[0], at[1], 9), NONE);
            due("nothing is 9", x.rule(0, "a=9 or b=9 or c=9 or d=9"), 0);
        }
        Calls x = new Calls();
        due("set(0, 0, 0) without objects", x.set(0, 0, 0), NONE);
    }

    private static void oneValueAlone() {
        Calls x = new Calls();
        x.objects(12);
        x.user();
        for (int object = 0; object < 12; object++) {
            for (int field = 0; field < 4; field++) {
                due("set", x.set(object, field, 40 * object + field), 1);
            }
        }
        x.set(7, 2, -1000);
        x.set(7, 2, 282);
        x.rule(0, "true");
        for (int object = 0; object < 12; object++) {
            for (int field = 0; field < 4; field++) {
                due("value(0, " + object + ", " + field + ")", x.value(0, object, field), 40 * object + field);
            }
        }
    }

    private static void noChangeOnceTold() {
        Calls x = Calls.with(2, 5, 6);
        due("value", x.value(0, 0, 0), 5);
        due("set of another object and FIELD", x.set(1, 3, 9), STATE);
        due("set to what it is", x.set(0, 0, 5), STATE);
        due("set of the one that was told", x.set(0, 0, 6), STATE);
        due("value for the other user", x.value(1, 1, 3), 0);
        due("value", x.value(1, 0, 0), 5);
        Calls y = Calls.with(1, 5, 6);
        y.sum(0, 0, 3);
        due("set behind sum()", y.set(0, 0, 0), STATE);
        due("as before", y.value(0, 0, 0), 5);
        y.clear();
        y.objects(1);
        due("set behind clear()", y.set(0, 0, 7), 1);
    }

    private static void orderOfSet() {
        Calls x = Calls.with(1, 5, 6);
        due("no object, and BAD", x.set(2, 0, 1001), NONE);
        due("no FIELD, and BAD", x.set(0, 4, -1001), NONE);
        x.value(0, 0, 0);
        due("no object, and STATE", x.set(2, 0, 0), NONE);
        due("no FIELD, and STATE", x.set(0, -1, 0), NONE);
        due("all three", x.set(2, 4, 1001), NONE);
        due("BAD, and STATE", x.set(0, 0, 1001), BAD);
        due("BAD, and STATE", x.set(0, 0, -1001), BAD);
        due("STATE alone", x.set(0, 0, 1000), STATE);
    }

    // ---- promise 4

    private static void users() {
        edge(4, "USERS 0, 1, .. (4 at most); FULL", RightsEdges::fourUsers);
        edge(4, "a user comes at any time", RightsEdges::userOnceTold);
        edge(4, "a new user's RULE is false; CLOSED FIELDS none at first; no cursor; TOLD nothing", RightsEdges::newUser);
    }

    private static void fourUsers() {
        Calls x = new Calls();
        x.objects(1);
        for (int i = 0; i < 4; i++) {
            due("told(1)", x.told(1), i);
            due("seen(" + i + ", 0) ahead of it", x.seen(i, 0), NONE);
            due("user()", x.user(), i);
            due("seen(" + i + ", 0) behind it", x.seen(i, 0), 0);
            x.rule(i, "true");
        }
        due("the 5th", x.user(), FULL);
        due("told(1)", x.told(1), 4);
        due("the 5th again", x.user(), FULL);
        due("seen(4, 0)", x.seen(4, 0), NONE);
        for (int i = 0; i < 4; i++) {
            due("the others are as they were", x.seen(i, 0), 1);
        }
    }

    private static void userOnceTold() {
        Calls x = Calls.with(1, 5, 6);
        x.sum(0, 0, 3);
        due("user() once TOLD", x.user(), 1);
        x.fillAudit(150);
        due("user() with a full AUDIT", x.user(), 2);
        x.user();
        due("the 5th", x.user(), FULL);
    }

    private static void newUser() {
        Calls x = Calls.with(1, 5, 6);
        x.close(0, 15);
        x.cursor(0, "true");
        x.sum(0, 0, 3);
        int user = x.user();
        due("none is SEEN", x.seen(user, 0), 0);
        due("not SEEN", x.seen(user, 1), 2);
        due("by no ERROR", x.seen(user, 2), 0);
        due("no cursor", x.step(user), STATE);
        due("all is HIDDEN", x.value(user, 0, 0), KEPT);
        for (int field = 0; field < 4; field++) {
            due("TOLD nothing", x.rows(user, field), 0);
            due("nothing is SOLVED", x.solved(user, field, 0), 0);
        }
        due("no match", x.ask(user, "true"), 0);
        due("nothing is CLOSED", x.close(user, 0), 0);
    }

    // ---- promise 8

    private static void closedFields() {
        edge(8, "those of the bits of mask: what they were", RightsEdges::eachMask);
        edge(8, "BAD: mask is not 0 .. 15", RightsEdges::badMasks);
        edge(8, "NONE", RightsEdges::closeOfNobody);
        edge(8, "act from the next ask on", RightsEdges::actFromTheNextAsk);
        edge(8, "a value is OPEN if its object is SEEN and its FIELD is not CLOSED; else it is HIDDEN", RightsEdges::openAndHidden);
    }

    private static void eachMask() {
        Calls x = Calls.with(2, 5);
        int before = 0;
        for (int mask = 0; mask < 16; mask++) {
            due("close(0, " + mask + ")", x.close(0, mask), before);
            before = mask;
            for (int field = 0; field < 4; field++) {
                due("cell of FIELD " + field + " with " + mask, x.cell(0, field, -9, 9), (mask >> field & 1) == 1 ? BARRED : 1);
            }
        }
        due("all, then none", x.close(0, 0), 15);
        due("none", x.close(0, 0), 0);
        due("the other user's", x.close(1, 8), 0);
        due("the first one's", x.close(0, 0), 0);
        due("the other user's", x.close(1, 0), 8);
    }

    private static void badMasks() {
        int[] bad = {-1, 16, 17, 31, -16, LOW, HIGH};
        for (int mask : bad) {
            Calls x = Calls.with(1, 5);
            x.close(0, 5);
            due("close(0, " + mask + ")", x.close(0, mask), BAD);
            due("what they were", x.close(0, 15), 5);
            due("the last that is taken", x.close(0, 0), 15);
        }
    }

    private static void closeOfNobody() {
        int[] nobody = {-1, 1, 4, LOW, HIGH};
        for (int user : nobody) {
            Calls x = Calls.with(1, 5);
            due("close(" + user + ", 3)", x.close(user, 3), NONE);
            due("NONE ahead of BAD", x.close(user, 16), NONE);
            due("NONE ahead of BAD", x.close(user, -1), NONE);
            due("nothing is CLOSED", x.close(0, 0), 0);
        }
    }

    private static void actFromTheNextAsk() {
        Calls x = Calls.with(1, 5, 6, 7);
        due("ask", x.ask(0, "a>5"), 2);
        x.cursor(0, "a>5");
        due("step", x.step(0), 1);
        due("value", x.value(0, 0, 0), 5);
        x.close(0, 1);
        due("what was found stays", x.found(1), 2);
        due("what was TOLD stays", x.solved(0, 0, 0), 1);
        due("value", x.value(0, 0, 0), KEPT);
        due("ask", x.ask(0, "a>5"), BARRED);
        due("cell", x.cell(0, 0, 0, 9), BARRED);
        due("step", x.step(0), BARRED);
        x.close(0, 0);
        due("step", x.step(0), 2);
        due("value", x.value(0, 0, 0), 5);
        x.rule(0, "a=6");
        due("what was found stays", x.found(1), 2);
        due("ask", x.ask(0, "a>5"), 1);
        due("cell", x.cell(0, 0, 0, 9), 1);
        due("value", x.value(0, 2, 0), KEPT);
        x.rule(0, "true");
        due("value", x.value(0, 2, 0), 7);
    }

    private static void openAndHidden() {
        String[] rules = {"true", "false", "1/0=1"};
        for (int field = 0; field < 4; field++) {
            for (int mask = 0; mask < 16; mask++) {
                boolean closed = (mask >> field & 1) == 1;
                for (int i = 0; i < 3; i++) {
                    Calls x = Calls.with(1, 5, 6);
                    x.set(1, field, 9);
                    x.rule(0, rules[i]);
                    x.close(0, mask);
                    due("value by " + rules[i] + " with " + mask, x.value(0, 1, field), closed || i > 0 ? KEPT : 9);
                }
            }
        }
    }

    // ---- promise 9

    private static void seenObjects() {
        edge(9, "SEEN (what = 0), not SEEN (1), not SEEN by an ERROR (2)", RightsEdges::seenOfSome);
        edge(9, "of no objects, and of twelve", RightsEdges::seenOfNoneAndAll);
        edge(9, "NONE, BAD", RightsEdges::refusedSeen);
        edge(9, "no ask", RightsEdges::seenIsNoAsk);
    }

    private static void seenOfSome() {
        Calls x = Calls.with(1, 0, 1, 2, 3, 4);
        x.rule(0, "4/a>1");
        due("SEEN: 1 and 2", x.seen(0, 0), 2);
        due("not SEEN: 0, 3, 4", x.seen(0, 1), 3);
        due("by an ERROR: 0", x.seen(0, 2), 1);
        x.set(0, 0, 2);
        due("by now", x.seen(0, 0), 3);
        due("by now", x.seen(0, 2), 0);
        x.object();
        due("with one that came", x.seen(0, 2), 1);
        due("with one that came", x.seen(0, 1), 3);
    }

    private static void seenOfNoneAndAll() {
        Calls x = new Calls();
        x.user();
        String[] rules = {"true", "false", "1/0=1"};
        for (String rule : rules) {
            x.rule(0, rule);
            for (int what = 0; what < 3; what++) {
                due("seen(0, " + what + ") of no objects", x.seen(0, what), 0);
            }
        }
        x.objects(12);
        int[][] counts = {{12, 0, 0}, {0, 12, 0}, {0, 12, 12}};
        for (int i = 0; i < 3; i++) {
            x.rule(0, rules[i]);
            for (int what = 0; what < 3; what++) {
                due("seen(0, " + what + ") by " + rules[i], x.seen(0, what), counts[i][what]);
            }
        }
    }

    private static void refusedSeen() {
        Calls x = Calls.with(1, 5);
        int[] bad = {-1, 3, 4, LOW, HIGH};
        for (int what : bad) {
            due("seen(0, " + what + ")", x.seen(0, what), BAD);
            due("NONE ahead of BAD", x.seen(1, what), NONE);
        }
        int[] nobody = {-1, 1, 4, LOW, HIGH};
        for (int user : nobody) {
            for (int what = 0; what < 3; what++) {
                due("seen(" + user + ", " + what + ")", x.seen(user, what), NONE);
            }
        }
    }

    private static void seenIsNoAsk() {
        Calls x = Calls.with(1, 5, 6);
        x.close(0, 15);
        x.write("true");
        due("with CLOSED FIELDS", x.seen(0, 0), 2);
        due("no entry", x.told(3), 0);
        due("nobody was TOLD", x.told(4), 0);
        due("the tape stays", x.told(2), 4);
        x.fillAudit(150);
        due("with a full AUDIT", x.seen(0, 0), 2);
    }

    // ---- promise 10

    private static void asks() {
        edge(10, "how many objects MATCH: none, and all twelve", RightsEdges::matchesOfNoneAndAll);
        edge(10, "an object MATCHES if it is SEEN, and the QUERY is TRUE for it", RightsEdges::seenAndTrue);
        edge(10, "-10 less the FAULT", RightsEdges::faultyAsk);
        edge(10, "one that has a FIELD that is CLOSED to the user who asks is refused (BARRED)", RightsEdges::barredAsk);
        edge(10, "NONE, FULL (the tape stays)", RightsEdges::refusedAsk);
        edge(10, "an ask of ask(): FAULT ahead of BARRED", RightsEdges::faultAheadOfBarred);
    }

    private static void matchesOfNoneAndAll() {
        Calls x = new Calls();
        x.user();
        x.rule(0, "true");
        due("of no objects", x.ask(0, "true"), 0);
        x.objects(12);
        due("all", x.ask(0, "true"), 12);
        due("the last", x.found(11), 11);
        due("none", x.ask(0, "false"), 0);
        x.set(11, 3, 5);
        due("the last one's last FIELD", x.ask(0, "d=5"), 1);
        due("it", x.found(0), 11);
    }

    private static void seenAndTrue() {
        String[] truths = {"true", "false", "1/0=1"};
        for (int i = 0; i < 9; i++) {
            Calls x = Calls.with(1, 5);
            x.rule(0, truths[i / 3]);
            due("RULE " + truths[i / 3] + ", QUERY " + truths[i % 3], x.ask(0, truths[i % 3]), i == 0 ? 1 : 0);
            due("as a cursor", x.cursor(0, truths[i % 3]), 1);
            due("step", x.step(0), i == 0 ? 0 : NO_MORE);
        }
        Calls x = Calls.with(2, 0, 1, 2, 3);
        x.rule(0, "a>0");
        due("those that are SEEN alone", x.ask(0, "a<3"), 2);
        due("the other user's RULE", x.ask(1, "a<3"), 3);
        due("not TRUE by an ERROR", x.ask(1, "2/a>0"), 2);
    }

    private static void faultyAsk() {
        Calls x = Calls.with(1, 5);
        due("1", x.ask(0, "a = 5 ?"), FAULT_1);
        due("place", x.place(), 6);
        due("2", x.ask(0, "a = 5 5"), FAULT_2);
        due("3", x.ask(0, "(".repeat(13)), FAULT_3);
        due("an empty tape", x.ask(0), FAULT_2);
        due("each is an entry", x.told(3), 4);
        for (int i = 0; i < 4; i++) {
            due("with a FAULT", x.audit(i, 4), 3);
        }
    }

    private static void barredAsk() {
        for (int mask = 0; mask < 16; mask++) {
            Calls x = Calls.with(2, 5);
            x.close(0, mask);
            for (int field = 0; field < 4; field++) {
                boolean barred = (mask >> field & 1) == 1;
                due("with " + mask + " of " + FIELDS[field], x.ask(0, "true or " + FIELDS[field] + "=1"), barred ? BARRED : 1);
                due("cursor", x.cursor(0, "true or 1<-" + FIELDS[field]), barred ? BARRED : 1);
                due("the other user", x.ask(1, "true or " + FIELDS[field] + "=1"), 1);
            }
            due("no FIELD", x.ask(0, "true"), 1);
            due("all FIELDS", x.ask(0, "a+b+c+d=5 or true"), mask == 0 ? 1 : BARRED);
        }
        Calls x = Calls.with(1, 5);
        x.close(0, 1);
        x.rule(0, "a=5");
        due("a CLOSED FIELD in the RULE bars none", x.ask(0, "b=0"), 1);
    }

    private static void refusedAsk() {
        int[] nobody = {-1, 1, 4, LOW, HIGH};
        for (int user : nobody) {
            Calls x = Calls.with(1, 5);
            x.write("a = 5");
            due("ask(" + user + ")", x.ask(user), NONE);
            due("cursor(" + user + ")", x.cursor(user), NONE);
            due("the tape stays", x.told(2), 5);
            due("no entry", x.told(3), 0);
            due("its text stays", x.ask(0), 1);
            x.fillAudit(150);
            x.write("?");
            due("NONE ahead of FULL, and of a FAULT", x.ask(user), NONE);
            due("NONE ahead of FULL, and of a FAULT", x.cursor(user), NONE);
        }
        Calls x = Calls.with(1, 5);
        x.fillAudit(149);
        due("the 150th", x.ask(0, "true"), 1);
        x.write("a = 5");
        due("the 151st", x.ask(0), FULL);
        due("the tape stays", x.told(2), 5);
        due("its text stays", x.rule(0), 1);
        x.write("?");
        due("FULL ahead of a FAULT", x.ask(0), FULL);
        due("the tape stays", x.told(2), 1);
        due("no text was taken", x.place(), NONE);
        x.close(0, 1);
        x.write("a = 5");
        due("FULL ahead of BARRED", x.ask(0), FULL);
        due("the tape stays", x.told(2), 5);
        due("told(3)", x.told(3), 150);
        due("found stays", x.found(0), 0);
    }

    private static void faultAheadOfBarred() {
        Calls x = Calls.with(1, 5);
        x.close(0, 15);
        due("ask", x.ask(0, "a = 5 ?"), FAULT_1);
        due("ask", x.ask(0, "a"), FAULT_2);
        due("cursor", x.cursor(0, "a = 5 b"), FAULT_2);
        due("cursor", x.cursor(0, "a = 5 and " + "(".repeat(13)), FAULT_3);
        for (int i = 0; i < 4; i++) {
            due("audit", x.audit(i, 4), 3);
        }
    }

    // ---- promise 11

    private static void matches() {
        edge(11, "match i, by the objects' numbers", RightsEdges::foundByNumbers);
        edge(11, "NONE", RightsEdges::foundNone);
        edge(11, "of the latest ask() that told something", RightsEdges::foundOfTheLatest);
    }

    private static void foundByNumbers() {
        Calls x = Calls.with(1, 9, 1, 8, 2, 7, 3, 6, 4, 5, 0, 11, 10);
        due("ask", x.ask(0, "a>4"), 7);
        int[] want = {0, 2, 4, 6, 8, 10, 11};
        for (int i = 0; i < want.length; i++) {
            due("found(" + i + ")", x.found(i), want[i]);
        }
        due("found(7)", x.found(7), NONE);
        due("ask", x.ask(0, "true"), 12);
        for (int i = 0; i < 12; i++) {
            due("found(" + i + ")", x.found(i), i);
        }
        due("found(12)", x.found(12), NONE);
    }

    private static void foundNone() {
        int[] none = {-1, 2, 3, 12, LOW, HIGH};
        Calls x = Calls.with(1, 5, 6, 7);
        due("before any ask()", x.found(0), NONE);
        x.ask(0, "a<7");
        for (int i : none) {
            due("found(" + i + ")", x.found(i), NONE);
        }
        due("the last", x.found(1), 1);
        x.ask(0, "false");
        due("of none", x.found(0), NONE);
        x.ask(0, "a=7");
        due("of one", x.found(0), 2);
        due("behind it", x.found(1), NONE);
    }

    private static void foundOfTheLatest() {
        Calls x = Calls.with(2, 5, 6, 7);
        x.ask(0, "a>5");
        x.ask(0, "?");
        due("behind a FAULT", x.found(0), 1);
        x.close(0, 1);
        x.ask(0, "a=5");
        due("behind BARRED", x.found(0), 1);
        x.write("true");
        x.ask(9);
        due("behind NONE", x.found(0), 1);
        x.cursor(1, "true");
        x.step(1);
        x.cell(1, 0, 5, 5);
        x.sum(1, 0, 7);
        x.value(1, 0, 0);
        due("behind other asks", x.found(0), 1);
        due("behind other asks", x.found(1), 2);
        x.rule(0, "false");
        due("behind another RULE", x.found(1), 2);
        x.ask(1, "a=7");
        due("of any user", x.found(0), 2);
        due("of any user", x.found(1), NONE);
        x.ask(1, "false");
        due("one that tells of none is the latest, too", x.found(0), NONE);
        x.ask(1, "a<7");
        x.fillAudit(150);
        x.write("a=7");
        due("FULL", x.ask(1), FULL);
        due("behind FULL", x.found(0), 0);
        due("behind FULL", x.found(1), 1);
    }

    // ---- promise 14

    private static void cells() {
        edge(14, "a value of low .. high", RightsEdges::lowToHigh);
        edge(14, "how many SEEN objects", RightsEdges::cellOfSeenObjects);
        edge(14, "NONE the user, FIELD", RightsEdges::noCell);
        edge(14, "BAD high is below low", RightsEdges::highBelowLow);
        edge(14, "BARRED: the FIELD is CLOSED", RightsEdges::barredCell);
        edge(14, "NONE; BAD; FULL; BARRED: the first that fits", RightsEdges::orderOfCell);
    }

    private static void lowToHigh() {
        Calls x = Calls.with(1, -1000, -1, 0, 1, 1000, 1);
        int[][] cells = {{-1000, -1000, 1}, {1000, 1000, 1}, {1, 1, 2}, {0, 1, 3}, {-1, 0, 2}, {-1000, 1000, 6}, {-999, 999, 4}, {-1000, 999, 5}, {-999, 1000, 5},
            {1001, HIGH, 0}, {LOW, -1001, 0}, {LOW, HIGH, 6}, {LOW, -1000, 1}, {1000, HIGH, 1}, {2, 999, 0}, {LOW, LOW, 0}, {HIGH, HIGH, 0}, {LOW, 0, 3},
            {0, HIGH, 4}};
        for (int[] cell : cells) {
            due("cell(0, 0, " + cell[0] + ", " + cell[1] + ")", x.cell(0, 0, cell[0], cell[1]), cell[2]);
        }
        due("another FIELD", x.cell(0, 1, 2, 5), 4);
        due("the last FIELD", x.cell(0, 3, 0, 0), 6);
        Calls y = new Calls();
        y.user();
        y.rule(0, "true");
        due("of no objects", y.cell(0, 0, LOW, HIGH), 0);
        y.objects(12);
        due("of twelve", y.cell(0, 0, 0, 0), 12);
    }

    private static void cellOfSeenObjects() {
        Calls x = Calls.with(2, 0, 1, 2, 3);
        x.rule(0, "4/a>1");
        due("not those that are not SEEN", x.cell(0, 0, LOW, HIGH), 2);
        due("the other user", x.cell(1, 0, LOW, HIGH), 4);
        x.rule(0, "false");
        due("none is SEEN", x.cell(0, 0, LOW, HIGH), 0);
        x.rule(0, "1/0=1");
        due("none is SEEN by an ERROR", x.cell(0, 0, LOW, HIGH), 0);
    }

    private static void noCell() {
        int[] nobody = {-1, 1, 4, LOW, HIGH};
        int[] noField = {-1, 4, 5, 32, LOW, HIGH};
        Calls x = Calls.with(1, 5);
        for (int user : nobody) {
            due("cell(" + user + ", 0, 0, 9)", x.cell(user, 0, 0, 9), NONE);
        }
        for (int field : noField) {
            due("cell(0, " + field + ", 0, 9)", x.cell(0, field, 0, 9), NONE);
        }
        due("no entry", x.told(3), 0);
        due("the last FIELD", x.cell(0, 3, 0, 9), 1);
    }

    private static void highBelowLow() {
        Calls x = Calls.with(1, 5);
        int[][] bad = {{5, 4}, {0, -1}, {-1000, -1001}, {HIGH, LOW}, {HIGH, HIGH - 1}, {LOW + 1, LOW}, {1, LOW}, {HIGH, -1}};
        for (int[] cell : bad) {
            due("cell(0, 0, " + cell[0] + ", " + cell[1] + ")", x.cell(0, 0, cell[0], cell[1]), BAD);
        }
        due("no entry", x.told(3), 0);
        due("high is low", x.cell(0, 0, 5, 5), 1);
    }

    private static void barredCell() {
        for (int mask = 0; mask < 16; mask++) {
            Calls x = Calls.with(2, 5);
            x.close(0, mask);
            for (int field = 0; field < 4; field++) {
                boolean barred = (mask >> field & 1) == 1;
                due("with " + mask + " of FIELD " + field, x.cell(0, field, -9, 9), barred ? BARRED : 1);
                due("audit", x.audit(2 * field, 4), barred ? 2 : 0);
                due("the other user", x.cell(1, field, -9, 9), 1);
            }
        }
    }

    private static void orderOfCell() {
        Calls x = Calls.with(1, 5);
        x.close(0, 1);
        due("no user, and BAD", x.cell(1, 0, 1, 0), NONE);
        due("no FIELD, and BAD", x.cell(0, 4, 1, 0), NONE);
        due("BAD, and BARRED", x.cell(0, 0, 1, 0), BAD);
        due("BARRED alone", x.cell(0, 0, 0, 0), BARRED);
        x.fillAudit(149);
        due("the 150th", x.cell(0, 1, 0, 0), 1);
        due("no user, and FULL", x.cell(1, 0, 0, 0), NONE);
        due("no FIELD, and FULL", x.cell(0, -1, 0, 0), NONE);
        due("BAD, and FULL", x.cell(0, 1, 1, 0), BAD);
        due("all four", x.cell(1, 0, 1, 0), NONE);
        due("BAD, FULL and BARRED", x.cell(0, 0, 1, 0), BAD);
        due("FULL, and BARRED", x.cell(0, 0, 0, 0), FULL);
        due("FULL alone", x.cell(0, 1, 0, 0), FULL);
    }

    // ---- promise 15

    private static void cursors() {
        edge(15, "stands ahead of all objects then", RightsEdges::aheadOfAll);
        edge(15, "-10 less the FAULT, BARRED: the cursor stays as it was", RightsEdges::cursorStays);
        edge(15, "NONE, FULL (the tape stays)", RightsEdges::refusedCursor);
        edge(15, "the user's cursor", RightsEdges::cursorOfEachUser);
    }

    private static void aheadOfAll() {
        Calls x = new Calls();
        x.user();
        x.rule(0, "true");
        due("of no objects", x.cursor(0, "true"), 1);
        due("step", x.step(0), NO_MORE);
        x.objects(3);
        due("cursor", x.cursor(0, "true"), 1);
        due("step", x.step(0), 0);
        due("step", x.step(0), 1);
        due("anew", x.cursor(0, "true"), 1);
        due("step", x.step(0), 0);
        due("step", x.step(0), 1);
        due("step", x.step(0), 2);
        due("step", x.step(0), NO_MORE);
        due("anew", x.cursor(0, "b=0"), 1);
        due("step", x.step(0), 0);
        due("a QUERY that matches none", x.cursor(0, "false"), 1);
        due("step", x.step(0), NO_MORE);
    }

    private static void cursorStays() {
        String[] faulty = {"?", "", "a=1 a", "(".repeat(13)};
        int[] answers = {FAULT_1, FAULT_2, FAULT_2, FAULT_3};
        for (int i = 0; i < faulty.length; i++) {
            Calls x = Calls.with(1, 5, 6, 7, 8);
            x.cursor(0, "a>5");
            due("step", x.step(0), 1);
            due("cursor of [" + faulty[i] + "]", x.cursor(0, faulty[i]), answers[i]);
            due("step", x.step(0), 2);
            x.close(0, 2);
            due("BARRED", x.cursor(0, "b=0"), BARRED);
            due("step", x.step(0), 3);
            due("step", x.step(0), NO_MORE);
            due("its FIELDS are still those of its own QUERY", x.close(0, 1), 2);
            due("step", x.step(0), BARRED);
        }
        Calls x = Calls.with(1, 5);
        x.cursor(0, "?");
        due("a FAULT makes no cursor", x.step(0), STATE);
        x.close(0, 1);
        x.cursor(0, "a=5");
        x.close(0, 0);
        due("BARRED makes no cursor", x.step(0), STATE);
        x.cursor(0, "a=5");
        due("a right one does", x.step(0), 0);
    }

    private static void refusedCursor() {
        Calls x = Calls.with(1, 5, 6, 7);
        x.cursor(0, "true");
        x.step(0);
        x.write("a=7");
        due("no user", x.cursor(1), NONE);
        due("no user", x.cursor(-1), NONE);
        due("the tape stays", x.told(2), 3);
        due("the cursor stays", x.step(0), 1);
        x.fillAudit(149);
        x.write("a=7");
        due("the 150th", x.cursor(0), 1);
        x.write("a=5 ?");
        due("the 151st, ahead of a FAULT", x.cursor(0), FULL);
        due("the tape stays", x.told(2), 5);
        due("no text was taken", x.place(), NONE);
        x.close(0, 1);
        x.write("a=5");
        due("FULL ahead of BARRED", x.cursor(0), FULL);
        due("the tape stays", x.told(2), 3);
        due("NONE ahead of FULL", x.cursor(1), NONE);
        due("its text stays", x.rule(0), 1);
    }

    private static void cursorOfEachUser() {
        Calls x = Calls.with(4, 5, 6, 7, 8, 9);
        for (int user = 0; user < 4; user++) {
            due("no cursor yet", x.step(user), STATE);
            due("cursor", x.cursor(user, "b>" + user), 1);
        }
        for (int user = 0; user < 4; user++) {
            due("step(" + user + ")", x.step(user), user + 1);
        }
        due("step(0)", x.step(0), 2);
        due("step(3)", x.step(3), NO_MORE);
        due("step(1)", x.step(1), 3);
    }

    // ---- promise 16

    private static void steps() {
        edge(16, "the next object that MATCHES by now", RightsEdges::nextByNow);
        edge(16, "-3: there is none, and the cursor stands behind all that there are (one that comes later can be next)", RightsEdges::behindAll);
        edge(16, "STATE: there was no cursor() that was right", RightsEdges::noCursor);
        edge(16, "BARRED: its QUERY has a FIELD that is CLOSED by now", RightsEdges::barredStep);
        edge(16, "NONE; STATE; FULL; BARRED: the first that fits", RightsEdges::orderOfStep);
    }

    private static void nextByNow() {
        Calls x = Calls.with(1, 5, 6, 7, 8, 9);
        x.cursor(0, "a>5");
        x.set(1, 0, 0);
        due("values by now", x.step(0), 2);
        x.rule(0, "a=9");
        x.set(1, 0, 9);
        due("the RULE by now; what is behind does not come again", x.step(0), 4);
        x.rule(0, "true");
        due("none is left", x.step(0), NO_MORE);
        x.cursor(0, "a=6");
        due("6 is no more", x.step(0), NO_MORE);
        x.cursor(0, "1/c=1 or a=7");
        due("not those that are an ERROR", x.step(0), 2);
        x.sum(0, 0, 31);
        due("once TOLD", x.step(0), NO_MORE);
    }

    private static void behindAll() {
        Calls x = Calls.with(1, 5, 6);
        x.cursor(0, "a=5");
        due("step", x.step(0), 0);
        due("none", x.step(0), NO_MORE);
        due("none again", x.step(0), NO_MORE);
        x.set(1, 0, 5);
        due("it stands behind 1", x.step(0), NO_MORE);
        x.object();
        x.set(2, 0, 5);
        due("one that came", x.step(0), 2);
        due("none", x.step(0), NO_MORE);
        x.object();
        due("one that came, and does not MATCH", x.step(0), NO_MORE);
        x.set(3, 0, 5);
        due("it stands behind that one", x.step(0), NO_MORE);
        x.object();
        x.object();
        x.set(5, 0, 5);
        due("the second that came", x.step(0), 5);
        due("-3 told something", x.audit(2, 4), 0);
        Calls y = new Calls();
        y.user();
        y.rule(0, "true");
        y.cursor(0, "true");
        due("of no objects", y.step(0), NO_MORE);
        due("of no objects", y.step(0), NO_MORE);
        y.object();
        due("the first that came", y.step(0), 0);
        due("none", y.step(0), NO_MORE);
        y.objects(11);
        for (int i = 1; i < 12; i++) {
            due("up to the 12th", y.step(0), i);
        }
        due("none", y.step(0), NO_MORE);
        due("none", y.step(0), NO_MORE);
    }

    private static void noCursor() {
        Calls x = Calls.with(2, 5);
        due("none yet", x.step(0), STATE);
        x.ask(0, "true");
        due("ask() makes none", x.step(0), STATE);
        x.cursor(1, "true");
        due("the other user's", x.step(0), STATE);
        due("no entry", x.told(3), 2);
        x.cursor(0, "false");
        due("a right one", x.step(0), NO_MORE);
    }

    private static void barredStep() {
        for (int mask = 0; mask < 16; mask++) {
            Calls x = Calls.with(2, 5, 6);
            x.cursor(0, "b=0 or d=0");
            x.cursor(1, "b=0 or d=0");
            x.close(0, mask);
            boolean barred = (mask & 10) != 0;
            due("with " + mask, x.step(0), barred ? BARRED : 0);
            due("audit", x.audit(2, 4), barred ? 2 : 0);
            due("the other user", x.step(1), 0);
            x.close(0, 5);
            due("the cursor did not go", x.step(0), barred ? 0 : 1);
        }
        Calls x = Calls.with(1, 5);
        x.cursor(0, "true");
        x.close(0, 15);
        due("a QUERY without FIELDS", x.step(0), 0);
    }

    private static void orderOfStep() {
        Calls x = Calls.with(2, 5, 6);
        int[] nobody = {-1, 2, 4, LOW, HIGH};
        for (int user : nobody) {
            due("step(" + user + ")", x.step(user), NONE);
        }
        x.cursor(0, "a>0");
        x.fillAudit(149);
        due("the 150th", x.step(0), 0);
        due("FULL alone", x.step(0), FULL);
        x.close(0, 1);
        due("FULL, and BARRED", x.step(0), FULL);
        due("STATE, and FULL", x.step(1), STATE);
        due("NONE, and FULL", x.step(2), NONE);
    }

    // ---- promise 22

    private static void counts() {
        edge(22, "0 objects, 1 users, 2 bytes, 3 entries, 4 whether anybody was TOLD anything", RightsEdges::eachCount);
        edge(22, "BAD", RightsEdges::badCounts);
    }

    private static void eachCount() {
        Calls x = new Calls();
        x.objects(12);
        x.user();
        x.user();
        x.user();
        x.user();
        x.write(" ".repeat(300));
        due("objects", x.told(0), 12);
        due("users", x.told(1), 4);
        due("bytes", x.told(2), 300);
        due("entries", x.told(3), 0);
        due("TOLD", x.told(4), 0);
        x.fillAudit(149);
        due("entries", x.told(3), 149);
        due("TOLD", x.told(4), 0);
        due("sum", x.sum(3, 0, 3), 0);
        due("entries", x.told(3), 150);
        due("TOLD", x.told(4), 1);
        x.type(0, 0);
        due("bytes", x.told(2), 0);
    }

    private static void badCounts() {
        Calls x = Calls.with(1, 5);
        int[] bad = {-1, 5, 6, LOW, HIGH};
        for (int what : bad) {
            due("told(" + what + ")", x.told(what), BAD);
        }
    }

    // ---- promise 23

    private static void clears() {
        edge(23, "all is as at first", RightsEdges::clearOfMuch);
        edge(23, "all is as at first: of all that there is room for", RightsEdges::clearOfAll);
        edge(23, "all is as at first: of nothing", RightsEdges::clearOfNothing);
        edge(23, "all is as at first: what users and objects had does not come back", RightsEdges::nothingComesBack);
    }

    private static void clearOfMuch() {
        Calls x = Calls.with(2, 5, 6, 7);
        x.ask(0, "true");
        x.cursor(0, "true");
        x.close(0, 3);
        x.sum(0, 0, 7);
        x.value(1, 0, 0);
        x.rule(1, "?");
        x.write("true");
        x.clear();
        isNew(x);
    }

    private static void clearOfAll() {
        Calls x = Calls.with(4, 1, 2, 3, 4, 5, 6, 7, 8, 9, 10, 11, 12);
        x.ask(0, "true");
        x.sum(0, 0, 4095);
        x.fillAudit(150);
        x.write(" ".repeat(300));
        x.clear();
        isNew(x);
        due("the tape has room", x.type(0, 8), 8);
        for (int i = 1; i < 12; i++) {
            due("object()", x.object(), i);
        }
        due("the 13th", x.object(), FULL);
        for (int i = 1; i < 4; i++) {
            due("user()", x.user(), i);
        }
        due("the 5th", x.user(), FULL);
        due("the AUDIT has room", x.cell(0, 0, 0, 0), 0);
        due("entries", x.told(3), 1);
    }

    private static void clearOfNothing() {
        Calls x = new Calls();
        x.clear();
        x.clear();
        isNew(x);
        x.clear();
        isNew(x);
    }

    private static void nothingComesBack() {
        Calls x = Calls.with(2, 5, 6, 7);
        for (int user = 0; user < 2; user++) {
            x.cursor(user, "true");
            x.step(user);
            x.sum(user, 0, 3);
            x.sum(user, 3, 6);
            x.value(user, 2, 1);
            x.close(user, 15);
        }
        x.ask(0, "true");
        x.clear();
        x.objects(3);
        due("found", x.found(0), NONE);
        for (int user = 0; user < 2; user++) {
            due("user()", x.user(), user);
            due("the RULE is false", x.seen(user, 1), 3);
            due("by no ERROR", x.seen(user, 2), 0);
            due("nothing is CLOSED", x.close(user, 0), 0);
            due("no cursor", x.step(user), STATE);
            for (int field = 0; field < 4; field++) {
                due("no rows", x.rows(user, field), 0);
                due("not SOLVED", x.solved(user, field, 2), 0);
                due("another world", x.world(user, field, 0, 1), 0);
            }
        }
        due("values are 0", x.rule(0, "a=0 and b=0 and c=0 and d=0"), 3);
        due("no entry", x.audit(0, 0), NONE);
        due("cursor", x.cursor(0, "true"), 1);
        due("ahead of all", x.step(0), 0);
        due("the first entry", x.audit(0, 1), 4);
    }
}
