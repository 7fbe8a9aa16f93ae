/** The edges of what is told: promises 12, 13 and 17 to 20, with REDUCED, SOLVED, KEPT BACK and ANOTHER WORLD. */
public final class ToldEdges extends Edges {
    private static final int[] TWELVE = {1, 2, 3, 4, 5, 6, 7, 8, 9, 10, 11, 12};
    private static final int[] NOBODY = {-1, 2, 4, LOW, HIGH};
    private static final int[] NO_FIELD = {-1, 4, 5, 32, LOW, HIGH};
    private static final int[] NO_OBJECT = {-1, 3, 12, 31, 32, 33, LOW, HIGH};
    private static final int[] NO_SET = {0, 8, 9, 15, 16, 4096, 1 << 30, LOW, LOW | 1, -1, HIGH};

    public static void main(String[] args) {
        values();
        sums();
        keptBack();
        solvedOnes();
        ifTold();
        worlds();
        countedRows();
        end();
    }

    /** Tells a user these sets of FIELD a, all of which must be told. */
    private static void tell(Calls x, int user, int... sets) {
        for (int set : sets) {
            due("sum(" + user + ", 0, " + set + ") is told", x.sum(user, 0, set) > Calls.OUT ? 1 : 0, 1);
        }
    }

    private static void solvedAre(Calls x, int user, int objects, int set) {
        for (int object = 0; object < objects; object++) {
            due("solved(" + user + ", 0, " + object + ")", x.solved(user, 0, object), set >> object & 1);
        }
    }

    // ---- promise 12

    private static void values() {
        edge(12, "an object's value; it is TOLD", ToldEdges::valueIsTold);
        edge(12, "- 1000 to 1000", ToldEdges::leastAndMost);
        edge(12, "IndexOutOfBoundsException: the user, object, FIELD", ToldEdges::noSuchValue);
        edge(12, "IllegalStateException: the AUDIT is full", ToldEdges::valueOfFullAudit);
        edge(12, "IllegalArgumentException: it is HIDDEN", ToldEdges::hiddenValue);
        edge(12, "IllegalArgumentException: it is KEPT BACK", ToldEdges::keptBackValue);
        edge(12, "the exceptions by their order", ToldEdges::orderOfValue);
    }

    private static void valueIsTold() {
        Calls x = Calls.with(2, 5, 6, 7);
        due("value", x.value(0, 1, 0), 6);
        solvedAre(x, 0, 3, 2);
        solvedAre(x, 1, 3, 0);
        due("rows", x.rows(0, 0), 1);
        due("rows of another FIELD", x.rows(0, 1), 0);
        due("told(4)", x.told(4), 1);
        due("again", x.value(0, 1, 0), 6);
        due("rows", x.rows(0, 0), 1);
        due("each is an entry", x.told(3), 2);
        due("the other user", x.value(1, 1, 0), 6);
    }

    private static void leastAndMost() {
        Calls x = Calls.with(1, -1000, 1000, 0);
        due("the least", x.value(0, 0, 0), -1000);
        due("the most", x.value(0, 1, 0), 1000);
        due("0", x.value(0, 2, 0), 0);
        Calls y = Calls.with(1, TWELVE);
        y.set(11, 3, -7);
        due("the last object's last FIELD", y.value(0, 11, 3), -7);
    }

    private static void noSuchValue() {
        Calls x = Calls.with(2, 5, 6, 7);
        for (int user : NOBODY) {
            due("value(" + user + ", 0, 0)", x.value(user, 0, 0), OUT);
        }
        for (int object : NO_OBJECT) {
            due("value(0, " + object + ", 0)", x.value(0, object, 0), OUT);
        }
        for (int field : NO_FIELD) {
            due("value(0, 0, " + field + ")", x.value(0, 0, field), OUT);
        }
        due("no entry", x.told(3), 0);
        due("nobody was TOLD", x.told(4), 0);
        due("the last of each", x.value(1, 2, 3), 0);
    }

    private static void valueOfFullAudit() {
        Calls x = Calls.with(1, 5, 6);
        x.fillAudit(149);
        due("the 150th", x.value(0, 0, 0), 5);
        due("the 151st", x.value(0, 1, 0), LATE);
        due("the 151st, of what was TOLD", x.value(0, 0, 0), LATE);
        due("entries", x.told(3), 150);
        solvedAre(x, 0, 2, 1);
        Calls y = Calls.with(1, 5, 6);
        y.fillAudit(150);
        due("the 151st", y.value(0, 0, 0), LATE);
        due("nobody was TOLD", y.told(4), 0);
        due("object()", y.object(), 2);
    }

    private static void hiddenValue() {
        Calls x = Calls.with(1, 5, 6, 7);
        x.rule(0, "a<7");
        due("not SEEN", x.value(0, 2, 0), KEPT);
        due("audit", x.audit(0, 4), 1);
        due("nobody was TOLD", x.told(4), 0);
        due("rows", x.rows(0, 0), 0);
        due("SEEN", x.value(0, 1, 0), 6);
        x.close(0, 1);
        due("CLOSED, though it is SOLVED", x.value(0, 1, 0), KEPT);
        due("another FIELD is OPEN", x.value(0, 1, 1), 1);
        due("CLOSED, and not SEEN", x.value(0, 2, 0), KEPT);
        x.close(0, 0);
        x.rule(0, "false");
        due("not SEEN, though it is SOLVED", x.value(0, 1, 0), KEPT);
        due("but its sum alone is told", x.sum(0, 0, 2), 6);
    }

    private static void keptBackValue() {
        Calls x = Calls.with(1, 5, 6, 7);
        x.rule(0, "b<2");
        tell(x, 0, 6);
        due("1 would solve 2", x.value(0, 1, 0), KEPT);
        due("audit", x.audit(1, 4), 1);
        due("rows", x.rows(0, 0), 1);
        solvedAre(x, 0, 3, 0);
        due("0 would not", x.value(0, 0, 0), 5);
        x.rule(0, "true");
        due("once 2 is OPEN", x.value(0, 1, 0), 6);
        solvedAre(x, 0, 3, 7);
    }

    private static void orderOfValue() {
        Calls x = Calls.with(1, 5, 6, 7);
        x.rule(0, "false");
        due("no FIELD, and HIDDEN", x.value(0, 0, 4), OUT);
        x.fillAudit(150);
        due("no user, and full", x.value(1, 0, 0), OUT);
        due("no object, and full", x.value(0, 3, 0), OUT);
        due("no FIELD, and full", x.value(0, 0, -1), OUT);
        due("full, and HIDDEN", x.value(0, 0, 0), LATE);
    }

    // ---- promise 13

    private static void sums() {
        edge(13, "the sum of the values of the objects of the bits of set", ToldEdges::eachSet);
        edge(13, "of twelve objects at their least and most", ToldEdges::largestSums);
        edge(13, "IndexOutOfBoundsException: the user, FIELD, a bit of no object, or set is 0", ToldEdges::noSuchSum);
        edge(13, "IllegalStateException: the AUDIT is full", ToldEdges::sumOfFullAudit);
        edge(13, "the exceptions by their order", ToldEdges::orderOfSum);
    }

    private static void eachSet() {
        Calls x = Calls.with(1, 1, 20, 300, -7);
        for (int set = 1; set < 16; set++) {
            int want = (set & 1) + (set >> 1 & 1) * 20 + (set >> 2 & 1) * 300 - (set >> 3 & 1) * 7;
            due("sum(0, 0, " + set + ")", x.sum(0, 0, set), want);
        }
        due("of another FIELD", x.sum(0, 1, 15), 6);
        due("of the last FIELD", x.sum(0, 3, 15), 0);
    }

    private static void largestSums() {
        Calls x = new Calls();
        x.objects(12);
        x.user();
        for (int i = 0; i < 12; i++) {
            x.set(i, 0, 1000);
            x.set(i, 1, -1000);
        }
        due("12 times 1000", x.sum(0, 0, 4095), 12000);
        due("12 times -1000", x.sum(0, 1, 4095), -12000);
        due("the 13th bit", x.sum(0, 0, 4096), OUT);
        due("with the 13th bit", x.sum(0, 0, 8191), OUT);
    }

    private static void noSuchSum() {
        Calls x = Calls.with(2, 5, 6, 7);
        for (int user : NOBODY) {
            due("sum(" + user + ", 0, 3)", x.sum(user, 0, 3), OUT);
        }
        for (int field : NO_FIELD) {
            due("sum(0, " + field + ", 3)", x.sum(0, field, 3), OUT);
        }
        for (int set : NO_SET) {
            due("sum(0, 0, " + set + ")", x.sum(0, 0, set), OUT);
        }
        due("no entry", x.told(3), 0);
        due("nobody was TOLD", x.told(4), 0);
        due("all bits that there are", x.sum(1, 0, 7), 18);
        Calls y = new Calls();
        y.user();
        due("without objects", y.sum(0, 0, 1), OUT);
        due("without objects", y.sum(0, 0, 0), OUT);
        y.object();
        y.rule(0, "true");
        due("of the one that there is", y.sum(0, 0, 1), 0);
        due("the second bit", y.sum(0, 0, 2), OUT);
    }

    private static void sumOfFullAudit() {
        Calls x = Calls.with(1, 5, 6);
        x.fillAudit(149);
        due("the 150th", x.sum(0, 0, 3), 11);
        due("the 151st", x.sum(0, 0, 1), LATE);
        due("the 151st, of what was TOLD", x.sum(0, 0, 3), LATE);
        due("entries", x.told(3), 150);
        due("rows", x.rows(0, 0), 1);
        Calls y = Calls.with(1, 5, 6);
        y.fillAudit(150);
        due("the 151st", y.sum(0, 0, 3), LATE);
        due("nobody was TOLD", y.told(4), 0);
        due("rows", y.rows(0, 0), 0);
    }

    private static void orderOfSum() {
        Calls x = Calls.with(1, 5, 6, 7);
        x.close(0, 1);
        due("no FIELD, and would be KEPT BACK", x.sum(0, 4, 1), OUT);
        due("KEPT BACK alone", x.sum(0, 0, 1), KEPT);
        x.fillAudit(150);
        due("no user, and full", x.sum(1, 0, 3), OUT);
        due("no FIELD, and full", x.sum(0, -1, 3), OUT);
        due("a bit of no object, and full", x.sum(0, 0, 8), OUT);
        due("set is 0, and full", x.sum(0, 0, 0), OUT);
        due("full, and would be KEPT BACK", x.sum(0, 0, 1), LATE);
    }

    // ---- when a sum is told

    private static void keptBack() {
        edge(13, "told if no value would be SOLVED that is HIDDEN", ToldEdges::noHiddenOneSolved);
        edge(13, "HIDDEN: not SEEN, or CLOSED, or by an ERROR", ToldEdges::eachWayToHide);
        edge(13, "and is not SOLVED already", ToldEdges::solvedAlready);
        edge(13, "KEPT BACK: it is not TOLD", ToldEdges::keptBackIsNotTold);
        edge(13, "over fractions", ToldEdges::overFractions);
        edge(13, "for each user and FIELD", ToldEdges::apart);
        edge(13, "one object, and all of twelve", ToldEdges::oneAndTwelve);
    }

    private static void noHiddenOneSolved() {
        Calls x = Calls.with(1, 5, 6, 7, 8);
        x.rule(0, "b<2");
        due("one that is OPEN", x.sum(0, 0, 1), 5);
        due("one that is HIDDEN", x.sum(0, 0, 4), KEPT);
        due("a HIDDEN one with one that is SOLVED", x.sum(0, 0, 5), KEPT);
        due("a HIDDEN one with one that is not", x.sum(0, 0, 6), 13);
        due("that one would solve it now", x.sum(0, 0, 2), KEPT);
        due("with the SOLVED one, too", x.sum(0, 0, 3), KEPT);
        due("two HIDDEN ones", x.sum(0, 0, 12), 15);
        due("all: it would solve the last", x.sum(0, 0, 15), KEPT);
        due("what follows from what was TOLD", x.sum(0, 0, 7), 18);
        due("the third pair: they would all be SOLVED", x.sum(0, 0, 10), KEPT);
        solvedAre(x, 0, 4, 1);
        due("rows", x.rows(0, 0), 3);
    }

    private static void eachWayToHide() {
        String[] rules = {"true", "b=0", "1/b=9 or b=0", "1/0=1", "false"};
        int[] hidden = {0, 2, 2, 3, 3};
        for (int i = 0; i < rules.length; i++) {
            for (int mask = 0; mask < 16; mask++) {
                Calls x = Calls.with(1, 5, 6);
                x.rule(0, rules[i]);
                x.close(0, mask);
                int out = (mask & 1) == 1 ? 3 : hidden[i];
                for (int set = 1; set < 3; set++) {
                    due("sum(0, 0, " + set + ") by " + rules[i] + " with " + mask, x.sum(0, 0, set), (out & set) != 0 ? KEPT : 4 + set);
                }
            }
        }
    }

    private static void solvedAlready() {
        Calls x = Calls.with(1, 5, 6, 7);
        tell(x, 0, 1, 6);
        x.rule(0, "false");
        due("one that is SOLVED, and HIDDEN", x.sum(0, 0, 1), 5);
        due("with those that were TOLD", x.sum(0, 0, 7), 18);
        due("with one of them: it would be SOLVED", x.sum(0, 0, 3), KEPT);
        due("one that is not SOLVED", x.sum(0, 0, 2), KEPT);
        x.close(0, 15);
        due("CLOSED, and SOLVED", x.sum(0, 0, 1), 5);
        Calls y = Calls.with(1, 5, 6, 7);
        tell(y, 0, 3, 6, 5);
        y.close(0, 1);
        for (int set = 1; set < 8; set++) {
            due("all are SOLVED: " + set, y.sum(0, 0, set), (set & 1) * 5 + (set >> 1 & 1) * 6 + (set >> 2 & 1) * 7);
        }
    }

    private static void keptBackIsNotTold() {
        Calls x = Calls.with(1, 5, 6, 7);
        x.close(0, 1);
        due("KEPT BACK", x.sum(0, 0, 1), KEPT);
        due("told(4)", x.told(4), 0);
        due("rows", x.rows(0, 0), 0);
        due("audit", x.audit(0, 4), 1);
        due("set()", x.set(0, 3, 1), 1);
        due("the rest would be a second way to it", x.sum(0, 0, 7), 18);
        due("KEPT BACK", x.sum(0, 0, 6), KEPT);
        due("as before", x.world(0, 0, 0, 1), 1);
        due("as before", x.rows(0, 0), 1);
        x.close(0, 0);
        due("told once it is OPEN", x.sum(0, 0, 6), 13);
        due("rows", x.rows(0, 0), 2);
    }

    /** By halves all pairs of three are one row too many, by thirds all triples of four. */
    private static void overFractions() {
        Calls x = Calls.with(1, 5, 6, 7);
        x.close(0, 1);
        tell(x, 0, 3, 6);
        due("the third pair", x.sum(0, 0, 5), KEPT);
        due("it would", x.would(0, 0, 0, 5), 1);
        x.close(0, 0);
        tell(x, 0, 5);
        solvedAre(x, 0, 3, 7);
        Calls y = Calls.with(1, 5, 6, 7, 8);
        y.close(0, 1);
        tell(y, 0, 7, 11, 13);
        solvedAre(y, 0, 4, 0);
        due("the fourth triple", y.sum(0, 0, 14), KEPT);
        y.close(0, 0);
        tell(y, 0, 14);
        solvedAre(y, 0, 4, 15);
        Calls z = Calls.with(1, 5, 6, 7, 8);
        z.close(0, 1);
        tell(z, 0, 3, 6, 12, 9);
        due("a ring of four pairs is three rows", z.rows(0, 0), 3);
        solvedAre(z, 0, 4, 0);
        due("all four follow from it", z.sum(0, 0, 15), 26);
        due("a pair across it solves all", z.sum(0, 0, 5), KEPT);
    }

    private static void apart() {
        Calls x = Calls.with(2, 5, 6, 7);
        x.close(0, 1);
        x.close(1, 1);
        tell(x, 0, 3);
        tell(x, 1, 6);
        due("the other user's pair does not matter", x.sum(1, 0, 7), KEPT);
        due("nor does the first one's", x.sum(1, 0, 5), 12);
        due("the first user's", x.sum(0, 0, 6), 13);
        x.close(0, 3);
        due("another FIELD's sums do not matter", x.sum(0, 1, 5), 2);
        due("rows of b", x.rows(0, 1), 1);
        due("rows of a", x.rows(0, 0), 2);
        due("another FIELD that is not CLOSED", x.sum(0, 2, 1), 0);
    }

    private static void oneAndTwelve() {
        Calls x = Calls.with(1, 5);
        x.rule(0, "false");
        due("the only object", x.sum(0, 0, 1), KEPT);
        x.rule(0, "true");
        due("the only object", x.sum(0, 0, 1), 5);
        Calls y = Calls.with(1, TWELVE);
        y.close(0, 1);
        due("all", y.sum(0, 0, 4095), 78);
        for (int i = 0; i < 12; i++) {
            due("all but " + i, y.sum(0, 0, 4095 & ~(1 << i)), KEPT);
            due("it alone", y.sum(0, 0, 1 << i), KEPT);
        }
        y.close(0, 0);
        due("OPEN: all but the last", y.sum(0, 0, 2047), 66);
        solvedAre(y, 0, 12, 2048);
    }

    // ---- promise 17

    private static void solvedOnes() {
        edge(17, "the row that has 1 for it alone is one of these", ToldEdges::rowForItAlone);
        edge(17, "none, and all of twelve", ToldEdges::noneAndAllSolved);
        edge(17, "NONE", ToldEdges::noSuchSolved);
    }

    private static void rowForItAlone() {
        Calls x = Calls.with(1, 1, 2, 3, 4, 5);
        tell(x, 0, 7);
        solvedAre(x, 0, 5, 0);
        tell(x, 0, 3);
        solvedAre(x, 0, 5, 4);
        tell(x, 0, 24);
        solvedAre(x, 0, 5, 4);
        tell(x, 0, 28);
        solvedAre(x, 0, 5, 4);
        tell(x, 0, 18);
        solvedAre(x, 0, 5, 4);
        tell(x, 0, 9);
        due("a ring of four", x.rows(0, 0), 4);
        solvedAre(x, 0, 5, 4);
        tell(x, 0, 17);
        solvedAre(x, 0, 5, 31);
        x.rule(0, "false");
        x.close(0, 15);
        solvedAre(x, 0, 5, 31);
    }

    private static void noneAndAllSolved() {
        Calls x = Calls.with(1, TWELVE);
        solvedAre(x, 0, 12, 0);
        for (int i = 11; i >= 0; i--) {
            due("value", x.value(0, i, 0), i + 1);
            solvedAre(x, 0, 12, 4095 & ~((1 << i) - 1));
        }
        Calls y = Calls.with(1, TWELVE);
        for (int i = 0; i < 11; i++) {
            tell(y, 0, 3 << i);
        }
        solvedAre(y, 0, 12, 0);
        tell(y, 0, 1 | 1 << 11);
        due("a ring of twelve", y.rows(0, 0), 11);
        solvedAre(y, 0, 12, 0);
        tell(y, 0, 5);
        solvedAre(y, 0, 12, 4095);
    }

    private static void noSuchSolved() {
        Calls x = Calls.with(2, 5, 6, 7);
        x.sum(0, 0, 3);
        for (int user : NOBODY) {
            due("solved(" + user + ", 0, 0)", x.solved(user, 0, 0), NONE);
        }
        for (int field : NO_FIELD) {
            due("solved(0, " + field + ", 0)", x.solved(0, field, 0), NONE);
        }
        for (int object : NO_OBJECT) {
            due("solved(0, 0, " + object + ")", x.solved(0, 0, object), NONE);
        }
        due("the last of each", x.solved(1, 3, 2), 0);
    }

    // ---- promise 18

    private static void ifTold() {
        edge(18, "whether it would be, were the sum over a set TOLD, too", ToldEdges::wouldBeSolved);
        edge(18, "NONE: the user, FIELD, object", ToldEdges::noSuchWould);
        edge(18, "BAD: a bit of no object, or set is 0", ToldEdges::badSets);
        edge(18, "NONE; BAD: the first that fits", ToldEdges::orderOfWould);
        edge(18, "no ask", ToldEdges::wouldIsNoAsk);
    }

    private static void wouldBeSolved() {
        Calls x = Calls.with(2, 5, 6, 7);
        for (int set = 1; set < 8; set++) {
            for (int object = 0; object < 3; object++) {
                due("would(0, 0, " + object + ", " + set + ")", x.would(0, 0, object, set), set == 1 << object ? 1 : 0);
            }
        }
        tell(x, 0, 7);
        for (int set = 1; set < 7; set++) {
            for (int object = 0; object < 3; object++) {
                int bit = 1 << object;
                due("would(0, 0, " + object + ", " + set + ")", x.would(0, 0, object, set), set == bit || set == (7 & ~bit) ? 1 : 0);
            }
        }
        due("of what was TOLD", x.would(0, 0, 0, 7), 0);
        due("another FIELD", x.would(0, 1, 0, 6), 0);
        due("another user", x.would(1, 0, 0, 6), 0);
        x.value(0, 0, 0);
        due("it is SOLVED already", x.would(0, 0, 0, 6), 1);
        x.rule(0, "false");
        x.close(0, 15);
        due("whatever is HIDDEN", x.would(0, 0, 1, 2), 1);
        Calls y = Calls.with(1, TWELVE);
        due("all of twelve", y.would(0, 0, 11, 4095), 0);
        due("the last", y.would(0, 0, 11, 2048), 1);
        due("the 13th bit", y.would(0, 0, 11, 4096), BAD);
    }

    private static void noSuchWould() {
        Calls x = Calls.with(2, 5, 6, 7);
        for (int user : NOBODY) {
            due("would(" + user + ", 0, 0, 1)", x.would(user, 0, 0, 1), NONE);
        }
        for (int field : NO_FIELD) {
            due("would(0, " + field + ", 0, 1)", x.would(0, field, 0, 1), NONE);
        }
        for (int object : NO_OBJECT) {
            due("would(0, 0, " + object + ", 1)", x.would(0, 0, object, 1), NONE);
        }
        due("the last of each", x.would(1, 3, 2, 7), 0);
    }

    private static void badSets() {
        Calls x = Calls.with(2, 5, 6, 7);
        for (int set : NO_SET) {
            due("would(0, 0, 0, " + set + ")", x.would(0, 0, 0, set), BAD);
        }
        due("all bits that there are", x.would(0, 0, 0, 7), 0);
    }

    private static void orderOfWould() {
        Calls x = Calls.with(2, 5, 6, 7);
        for (int set : NO_SET) {
            due("no user, and BAD", x.would(2, 0, 0, set), NONE);
            due("no FIELD, and BAD", x.would(0, 4, 0, set), NONE);
            due("no object, and BAD", x.would(0, 0, 3, set), NONE);
        }
    }

    private static void wouldIsNoAsk() {
        Calls x = Calls.with(1, 5, 6, 7);
        x.close(0, 1);
        due("would", x.would(0, 0, 0, 1), 1);
        due("no entry", x.told(3), 0);
        due("nobody was TOLD", x.told(4), 0);
        due("rows", x.rows(0, 0), 0);
        due("not SOLVED", x.solved(0, 0, 0), 0);
        due("object()", x.object(), 3);
        tell(x, 0, 3);
        due("would", x.would(0, 0, 2, 7), 1);
        due("rows", x.rows(0, 0), 1);
        due("not SOLVED", x.solved(0, 0, 2), 0);
        due("the same world", x.world(0, 0, 0, 1), 1);
        due("KEPT BACK as before", x.sum(0, 0, 7), KEPT);
        x.fillAudit(150);
        due("with a full AUDIT", x.would(0, 0, 2, 7), 1);
        due("with a full AUDIT", x.solved(0, 0, 2), 0);
        due("with a full AUDIT", x.world(0, 0, 2, 2), 1);
        due("with a full AUDIT", x.rows(0, 0), 1);
    }

    // ---- promise 19

    private static void worlds() {
        edge(19, "the object itself is free, if it is no PIVOT", ToldEdges::freeItself);
        edge(19, "else the first one behind it for which its row is not 0", ToldEdges::freeBehindPivot);
        edge(19, "other objects that are no PIVOTS have 0", ToldEdges::othersHaveZero);
        edge(19, "a PIVOT has what the free one has in its row, with the other sign", ToldEdges::otherSign);
        edge(19, "multiplied by the least number above 0 that makes them whole", ToldEdges::leastNumber);
        edge(19, "twelve objects, eleven rows", ToldEdges::largestWorld);
        edge(19, "STATE: it is SOLVED", ToldEdges::worldOfSolved);
        edge(19, "NONE: the user, FIELD, an object, k", ToldEdges::noSuchWorld);
        edge(19, "NONE; STATE: the first that fits", ToldEdges::orderOfWorld);
    }

    private static void worldIs(Calls x, int object, long... numbers) {
        for (int k = 0; k < numbers.length; k++) {
            due("world(0, 0, " + object + ", " + k + ")", x.world(0, 0, object, k), numbers[k]);
        }
    }

    private static void freeItself() {
        Calls x = Calls.with(1, 1, 2, 3, 4, 5);
        worldIs(x, 0, 1, 0, 0, 0, 0);
        worldIs(x, 4, 0, 0, 0, 0, 1);
        tell(x, 0, 3, 6);
        worldIs(x, 2, 1, -1, 1, 0, 0);
        worldIs(x, 3, 0, 0, 0, 1, 0);
        Calls y = Calls.with(1, 1, 2, 3, 4, 5);
        tell(y, 0, 12, 24);
        worldIs(y, 0, 1, 0, 0, 0, 0);
        worldIs(y, 4, 0, 0, 1, -1, 1);
        Calls z = Calls.with(1, 9);
        worldIs(z, 0, 1);
    }

    private static void freeBehindPivot() {
        Calls x = Calls.with(1, 1, 2, 3, 4, 5);
        tell(x, 0, 3, 6);
        worldIs(x, 0, 1, -1, 1, 0, 0);
        worldIs(x, 1, 1, -1, 1, 0, 0);
        Calls y = Calls.with(1, 1, 2, 3, 4, 5);
        tell(y, 0, 18, 20);
        worldIs(y, 1, 0, -1, -1, 0, 1);
        worldIs(y, 2, 0, -1, -1, 0, 1);
        worldIs(y, 3, 0, 0, 0, 1, 0);
        worldIs(y, 4, 0, -1, -1, 0, 1);
    }

    private static void othersHaveZero() {
        Calls x = Calls.with(1, 1, 2, 3, 4, 5);
        tell(x, 0, 7, 28);
        worldIs(x, 0, -1, 1, 0, 0, 0);
        worldIs(x, 1, -1, 1, 0, 0, 0);
        worldIs(x, 2, 1, 0, -1, 1, 0);
        worldIs(x, 3, 1, 0, -1, 1, 0);
        worldIs(x, 4, 1, 0, -1, 0, 1);
        Calls y = Calls.with(1, 1, 2, 3, 4, 5, 6);
        tell(y, 0, 3, 6, 13, 52);
        worldIs(y, 0, -1, 1, -1, 2, 1, 0);
        worldIs(y, 3, -1, 1, -1, 2, 1, 0);
        worldIs(y, 5, -1, 1, -1, 2, 0, 1);
    }

    private static void otherSign() {
        Calls x = Calls.with(1, 1, 2, 3, 4);
        tell(x, 0, 5, 6, 9);
        for (int object = 0; object < 4; object++) {
            worldIs(x, object, -1, -1, 1, 1);
        }
        Calls y = Calls.with(1, 1, 2, 3, 4);
        tell(y, 0, 9, 6, 5);
        for (int object = 0; object < 4; object++) {
            worldIs(y, object, -1, -1, 1, 1);
        }
        Calls z = Calls.with(1, 1, 2, 3, 4);
        tell(z, 0, 7, 11);
        worldIs(z, 0, -1, 1, 0, 0);
        worldIs(z, 2, -1, 0, 1, 1);
        worldIs(z, 3, -1, 0, 1, 1);
    }

    /** A half for object 7 and a third for object 8: each world has its own least number. */
    private static void leastNumber() {
        Calls x = Calls.with(1, 1, 2, 3, 4, 5, 6, 7, 8, 9);
        tell(x, 0, 3, 6, 5 + 128, 8 + 16 + 32, 8 + 16 + 64, 8 + 32 + 64, 16 + 32 + 64 + 256);
        worldIs(x, 0, -1, 1, -1, 0, 0, 0, 0, 2, 0);
        worldIs(x, 7, -1, 1, -1, 0, 0, 0, 0, 2, 0);
        worldIs(x, 3, 0, 0, 0, 2, -1, -1, -1, 0, 3);
        worldIs(x, 8, 0, 0, 0, 2, -1, -1, -1, 0, 3);
        Calls y = Calls.with(1, 1, 2, 3, 4, 5, 6, 7, 8);
        tell(y, 0, 3, 6, 5 + 128, 8 + 16 + 32, 8 + 16 + 64, 8 + 32 + 64, 16 + 32 + 64 + 128);
        worldIs(y, 7, -3, 3, -3, 4, -2, -2, -2, 6);
        worldIs(y, 0, -3, 3, -3, 4, -2, -2, -2, 6);
        Calls z = Calls.with(1, 1, 2, 3, 4);
        tell(z, 0, 7, 11, 13);
        worldIs(z, 0, -2, 1, 1, 1);
    }

    private static void largestWorld() {
        int[] sets = {2788, 2142, 1940, 1159, 2745, 2855, 1617, 2547, 1994, 3437, 1074};
        long[] numbers = {-148, 10, -294, -225, -105, -333, -184, 4, -42, 9, 428, 798};
        Calls x = Calls.with(1, TWELVE);
        tell(x, 0, sets);
        due("rows", x.rows(0, 0), 11);
        for (int object = 0; object < 12; object++) {
            worldIs(x, object, numbers);
        }
        for (int set : sets) {
            long total = 0;
            for (int k = 0; k < 12; k++) {
                total += (set >> k & 1) * numbers[k];
            }
            due("the test's own numbers tell the same", total, 0);
        }
        tell(x, 0, 4095);
        solvedAre(x, 0, 12, 4095);
    }

    private static void worldOfSolved() {
        Calls x = Calls.with(2, 5, 6, 7);
        tell(x, 0, 4, 3);
        for (int k = 0; k < 3; k++) {
            due("world(0, 0, 2, " + k + ")", x.world(0, 0, 2, k), STATE);
            due("another user", x.world(1, 0, 2, k), k == 2 ? 1 : 0);
            due("another FIELD", x.world(0, 1, 2, k), k == 2 ? 1 : 0);
        }
        worldIs(x, 0, -1, 1, 0);
        tell(x, 0, 1);
        for (int object = 0; object < 3; object++) {
            due("all are SOLVED", x.world(0, 0, object, 0), STATE);
        }
    }

    private static void noSuchWorld() {
        Calls x = Calls.with(2, 5, 6, 7);
        for (int user : NOBODY) {
            due("world(" + user + ", 0, 0, 0)", x.world(user, 0, 0, 0), NONE);
        }
        for (int field : NO_FIELD) {
            due("world(0, " + field + ", 0, 0)", x.world(0, field, 0, 0), NONE);
        }
        for (int object : NO_OBJECT) {
            due("world(0, 0, " + object + ", 0)", x.world(0, 0, object, 0), NONE);
            due("world(0, 0, 0, " + object + ")", x.world(0, 0, 0, object), NONE);
        }
        due("the last of each", x.world(1, 3, 2, 2), 1);
    }

    private static void orderOfWorld() {
        Calls x = Calls.with(2, 5, 6, 7);
        tell(x, 0, 1, 2, 4);
        due("no user, and another is SOLVED", x.world(2, 0, 0, 0), NONE);
        due("no FIELD", x.world(0, 4, 0, 0), NONE);
        due("no object", x.world(0, 0, 3, 0), NONE);
        due("no k, and SOLVED", x.world(0, 0, 0, 3), NONE);
        due("no k, and SOLVED", x.world(0, 0, 0, -1), NONE);
        due("SOLVED alone", x.world(0, 0, 0, 2), STATE);
    }

    // ---- promise 20

    private static void countedRows() {
        edge(20, "how many rows REDUCED has: rows of 0 go", ToldEdges::rowsOfZeroGo);
        edge(20, "none, and as many as objects", ToldEdges::noneAndAllRows);
        edge(20, "NONE", ToldEdges::noSuchRows);
    }

    private static void rowsOfZeroGo() {
        Calls x = Calls.with(1, 1, 2, 3, 4);
        int[] sets = {3, 3, 12, 15, 3, 6, 9, 5, 1, 8};
        int[] rows = {1, 1, 2, 2, 2, 3, 3, 4, 4, 4};
        for (int i = 0; i < sets.length; i++) {
            tell(x, 0, sets[i]);
            due("rows behind " + sets[i], x.rows(0, 0), rows[i]);
        }
    }

    private static void noneAndAllRows() {
        Calls x = Calls.with(2, TWELVE);
        for (int i = 0; i < 12; i++) {
            due("rows", x.rows(0, 0), i);
            tell(x, 0, 4095 >> i);
        }
        due("rows", x.rows(0, 0), 12);
        tell(x, 0, 2730);
        due("no more than objects", x.rows(0, 0), 12);
        for (int field = 1; field < 4; field++) {
            due("another FIELD", x.rows(0, field), 0);
        }
        due("another user", x.rows(1, 0), 0);
        Calls y = new Calls();
        y.user();
        due("without objects", y.rows(0, 0), 0);
    }

    private static void noSuchRows() {
        Calls x = Calls.with(2, 5, 6, 7);
        x.sum(0, 0, 3);
        for (int user : NOBODY) {
            due("rows(" + user + ", 0)", x.rows(user, 0), NONE);
        }
        for (int field : NO_FIELD) {
            due("rows(0, " + field + ")", x.rows(0, field), NONE);
        }
        due("the last of each", x.rows(1, 3), 0);
    }
}
