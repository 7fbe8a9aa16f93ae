/** Each promise by hand: ordinary inputs, the edges that the document names, and wrong inputs. */
public final class PromiseTests {
    private static final int OUT = Calls.OUT, LATE = Calls.LATE, KEPT = Calls.KEPT;
    private static final int LOW = Integer.MIN_VALUE, HIGH = Integer.MAX_VALUE;
    private static int wrong = 0;
    private static int checked = 0;

    private final int promise;
    private Calls x = new Calls();

    private PromiseTests(int promise) {
        this.promise = promise;
    }

    public static void main(String[] args) {
        new PromiseTests(1).newObject();
        new PromiseTests(2).object();
        new PromiseTests(3).set();
        new PromiseTests(4).user();
        new PromiseTests(5).type();
        new PromiseTests(6).rule();
        new PromiseTests(6).ruleGrammar();
        new PromiseTests(6).ruleReckoning();
        new PromiseTests(6).ruleTruths();
        new PromiseTests(7).place();
        new PromiseTests(7).placeOfOrder();
        new PromiseTests(7).placeOfSize();
        new PromiseTests(8).close();
        new PromiseTests(9).seen();
        new PromiseTests(10).ask();
        new PromiseTests(11).found();
        new PromiseTests(12).value();
        new PromiseTests(13).sum();
        new PromiseTests(13).sumKeptBack();
        new PromiseTests(14).cell();
        new PromiseTests(15).cursor();
        new PromiseTests(16).step();
        new PromiseTests(17).solved();
        new PromiseTests(18).would();
        new PromiseTests(19).world();
        new PromiseTests(20).rows();
        new PromiseTests(21).audit();
        new PromiseTests(21).fullAudit();
        new PromiseTests(22).told();
        new PromiseTests(23).clear();
        System.out.println(checked + " answers looked at, " + wrong + " not as due");
        if (wrong != 0) {
            System.exit(1);
        }
    }

    private void due(String what, long got, long want) {
        checked++;
        if (got != want) {
            wrong++;
            System.out.println("promise " + promise + ": " + what + " answered " + got + ", due is " + want);
        }
    }

    private void type(String text) {
        x.write(text);
    }

    private int rule(int user, String text) {
        return x.rule(user, text);
    }

    private int ask(int user, String text) {
        return x.ask(user, text);
    }

    private int cursor(int user, String text) {
        return x.cursor(user, text);
    }

    private long value(int user, int object, int field) {
        return x.value(user, object, field);
    }

    private long sum(int user, int field, int set) {
        return x.sum(user, field, set);
    }

    /** Objects with these values in FIELD a, and in FIELD b their numbers; users who see all. */
    private void world(int users, int... values) {
        x = Calls.with(users, values);
    }

    private void fillAudit() {
        x.fillAudit(150);
    }

    private static String repeat(String text, int times) {
        return text.repeat(times);
    }

    private void allAsAtFirst() {
        for (int what = 0; what < 5; what++) {
            due("told(" + what + ")", x.told(what), 0);
        }
        due("place()", x.place(), -1);
        due("found(0)", x.found(0), -1);
        due("audit(0, 0)", x.audit(0, 0), -1);
        due("set(0, 0, 0)", x.set(0, 0, 0), -1);
        due("seen(0, 0)", x.seen(0, 0), -1);
        due("rule(0)", x.rule(0), -1);
    }

    private void newObject() {
        allAsAtFirst();
        HiddenSums other = new HiddenSums();
        x.object();
        due("another object's told(0)", other.told(0), 0);
        due("NONE", HiddenSums.NONE, -1);
        due("BAD", HiddenSums.BAD, -2);
        due("FULL", HiddenSums.FULL, -4);
        due("STATE", HiddenSums.STATE, -5);
        due("BARRED", HiddenSums.BARRED, -6);
    }

    private void object() {
        for (int i = 0; i < 12; i++) {
            due("object()", x.object(), i);
        }
        due("the 13th object()", x.object(), -4);
        due("told(0)", x.told(0), 12);
        x.user();
        rule(0, "a = 0 and b = 0 and c = 0 and d = 0");
        due("new objects' values are 0", x.seen(0, 0), 12);
        due("sum told", sum(0, 0, 3), 0);
        due("STATE ahead of FULL", x.object(), -5);

        world(1, 5, 6);
        due("ask tells none", ask(0, "true"), 2);
        due("cell tells none", x.cell(0, 0, 5, 5), 1);
        due("kept back", rule(0, "false"), 0);
        due("kept back", sum(0, 0, 1), KEPT);
        due("object() as long as none was TOLD", x.object(), 2);
        rule(0, "true");
        due("value", value(0, 0, 0), 5);
        due("object() behind it", x.object(), -5);
    }

    private void set() {
        world(1, 5, 6);
        due("set", x.set(1, 3, -1000), 1);
        due("set", x.set(1, 3, 1000), 1);
        due("value", value(0, 1, 3), 1000);
        due("set behind it", x.set(1, 3, 1), -5);
        due("no object", x.set(2, 0, 0), -1);
        due("no object", x.set(-1, 0, 0), -1);
        due("no field", x.set(0, 4, 0), -1);
        due("no field", x.set(0, -1, 0), -1);
        due("NONE ahead of BAD", x.set(HIGH, 0, HIGH), -1);
        due("BAD ahead of STATE", x.set(0, 0, 1001), -2);
        due("BAD", x.set(0, 0, -1001), -2);
        due("BAD", x.set(0, 0, LOW), -2);
        due("still the same", value(0, 1, 3), 1000);
        due("others as they were", value(0, 1, 0), 6);
    }

    private void user() {
        for (int i = 0; i < 4; i++) {
            due("user()", x.user(), i);
        }
        due("the 5th user()", x.user(), -4);
        due("told(1)", x.told(1), 4);
        x.object();
        due("a new user sees none", x.seen(3, 1), 1);
        due("by no error", x.seen(3, 2), 0);
        due("none is closed", x.close(3, 0), 0);
        due("no cursor", x.step(3), -5);
        world(1, 4, 5);
        due("value", value(0, 0, 0), 4);
        due("user() once told", x.user(), 1);
        due("told nothing", x.rows(1, 0), 0);
    }

    private void type() {
        due("type", x.type(0x616263L, 3), 3);
        due("type", x.type(0L, 1), 4);
        due("type", x.type(-1L, 8), 12);
        due("n below 0", x.type(1, -1), -2);
        due("n above 8", x.type(1, 9), -2);
        due("n = HIGH", x.type(1, HIGH), -2);
        due("n = LOW", x.type(1, LOW), -2);
        due("told(2)", x.told(2), 12);
        due("empty", x.type(77L, 0), 0);
        due("told(2)", x.told(2), 0);
        for (int i = 1; i <= 37; i++) {
            due("type", x.type(0x2020202020202020L, 8), 8 * i);
        }
        due("5 over", x.type(0, 5), -4);
        due("BAD ahead of FULL", x.type(0, 9), -2);
        due("told(2)", x.told(2), 296);
        due("to the brim", x.type(0x74727565L, 4), 300);
        due("one over", x.type(0, 1), -4);
        x.user();
        x.object();
        due("300 bytes are a text", x.rule(0), 1);

        x = new Calls();
        x.user();
        x.object();
        x.type(0x61L, 1);
        x.type(0xFFFF3E2DL, 2);
        x.type(0x31L, 1);
        due("the lowest bytes, the highest first: a>-1", x.rule(0), 1);
        x.type(0x80L, 1);
        due("a byte above 127 begins no token", x.rule(0), -11);
    }

    private void rule() {
        world(2, 5, 6, 7);
        due("seen by the rule", rule(0, "a > 5"), 2);
        due("tape is empty", x.told(2), 0);
        due("the other user's rule is as it was", x.seen(1, 0), 3);
        due("a fault", rule(0, "a >"), -12);
        due("tape is empty", x.told(2), 0);
        due("the rule stays", x.seen(0, 0), 2);
        type("true");
        due("no user", x.rule(2), -1);
        due("no user", x.rule(-1), -1);
        due("the tape stays", x.told(2), 4);
        due("a user", x.rule(0), 3);
        due("an empty tape", x.rule(0), -12);
        due("no ask", x.told(3), 0);
        x.close(0, 1);
        due("a rule may have a closed field", rule(0, "a = 7"), 1);
        x.object();
        x.set(3, 0, 7);
        due("objects that come later are seen by it", x.seen(0, 0), 2);
    }

    private void ruleGrammar() {
        world(1, 5);
        String[] right = {"true", "not false", "not not true", "(true)", "((true))", "true and true", "false or true",
            "a=5", "a<6", "a>4", "5=a", "- - 5=a", "-5=-a", "a+b-c*d/1=5", "  a  =  5  ", "true and(a=5)", "not(false)and true",
            "a=5and true", "a=-  -5", "0005=a", "a=10/2", "not a=4 and a=5", "false and false or true", "true or false and false",
            "a=5 or(b=1)", "not false and not(a<5)"};
        for (String text : right) {
            due(text, rule(0, text), 1);
        }
        String[] disordered = {"", " ", "a", "5", "a<", "a<b<c", "(a)<1", "(a<1", "a<1)", "()", "not", "not a", "true true", "true<1",
            "a<true", "and", "or true", "true and", "true or or true", "a<+1", "a<*1", "a b<1", "a<1 b", "a 1<2", "a<1 (", "a<1 not",
            "true(", "true not", "a--", "a<not b", "(true", "a<(1)", "=1", "1 2<3", "a<1 true", "true=true", ")", "not)", "(and", "a=>1"};
        for (String text : disordered) {
            due(text, rule(0, text), -12);
        }
        String[] broken = {"A<1", "a<1;", "ab<1", "e<1", "trues", "tru", "an", "nota<1", "anda", "12345<1", "a<00000", "a!1", "a\t<1",
            "a<1\0", "a<1\u00e4", "[a<1]", "TRUE", "a.1", "`", "{", "@", ":", "z", "a<1 or x", "true and ~", "falsey", "o", "t"};
        for (String text : broken) {
            due(text, rule(0, text), -11);
        }
    }

    private void ruleReckoning() {
        world(1, 7);
        String[] hold = {"a/2=3", "-a/2=-3", "a/-2=-3", "-7/-2=3", "2+3*4=14", "2*3+4=10", "10-3-2=5", "10-3+2=9", "100/10/5=2", "7/2*2=6",
            "2*7/2=7", "1-2*3=-5", "--a=7", "---a=-7", "2- -2=4", "2*-3=-6", "-2*3=-6", "0/5=0", "a-8=-1", "9999*9999/9999=9999", "9999*9999-9998*9999=9999",
            "1-1/2=1", "4/2-1=1", "1+4/2+1=4",
            // 2^63 wraps to the least number, which stays so by / -1
            "4096*4096*4096*4096*4096*8<0", "4096*4096*4096*4096*4096*8/-1<0", "4096*4096*4096*4096*4096*8-1>0",
            "4096*4096*4096*4096*4096*16=0", "not 1<1", "not 1>1", "1<2", "2>1", "not 2<1", "not 1>2", "not 1=2"};
        for (String text : hold) {
            due(text, rule(0, text), 1);
        }
    }

    private void ruleTruths() {
        world(1, 7);
        String error = "1/b=1";
        due("an error is not seen", rule(0, error), 0);
        due("it is an error", x.seen(0, 2), 1);
        String[] names = {"false", "true", error};
        int[][] both = {{0, 0, 0}, {0, 1, 2}, {0, 2, 2}};
        int[][] either = {{0, 1, 2}, {1, 1, 1}, {2, 1, 2}};
        int[] opposite = {1, 0, 2};
        for (int i = 0; i < 3; i++) {
            is("not " + names[i], opposite[i]);
            for (int j = 0; j < 3; j++) {
                is(names[i] + " and " + names[j], both[i][j]);
                is(names[i] + " or " + names[j], either[i][j]);
                is("not(" + names[i] + " or " + names[j] + ")", opposite[either[i][j]]);
                is(names[i] + " and true and " + names[j], both[i][j]);
            }
        }
        is("0*1/0=0", 2);
        is("1/0*0=0", 2);
        is("1+2/b=0", 2);
        is("2=1/b-1", 2);
        is("-1/-b<1", 2);
        is("1/0=1/0", 2);
        is("1/0<1 or 1/0>1 or a=7", 1);
    }

    private void is(String text, int truth) {
        rule(0, text);
        due(text + ": TRUE", x.seen(0, 0), truth == 1 ? 1 : 0);
        due(text + ": ERROR", x.seen(0, 2), truth == 2 ? 1 : 0);
        due(text + ": not TRUE", x.seen(0, 1), truth == 1 ? 0 : 1);
    }

    private void fault(String text, int fault, int place) {
        due("rule of " + text, rule(0, text), -10 - fault);
        due("place() of " + text, x.place(), place);
    }

    private void place() {
        world(1, 5);
        due("none had a fault", x.place(), -1);
        fault("a < 12345", 1, 4);
        type("true");
        due("typing takes no text", x.place(), 4);
        due("rule(9) takes none", x.rule(9), -1);
        due("place", x.place(), 4);
        due("ask(9) takes none", x.ask(9), -1);
        due("place", x.place(), 4);
        due("cursor(9) takes none", x.cursor(9), -1);
        due("place", x.place(), 4);
        due("a right one", x.rule(0), 1);
        due("place", x.place(), -1);
        due("ask with a fault", ask(0, "a<1 b"), -12);
        due("place", x.place(), 4);
        due("cursor with a fault", cursor(0, "true ?"), -11);
        due("place", x.place(), 5);
        x.close(0, 1);
        due("barred", ask(0, "a<1"), -6);
        due("a barred text has no fault", x.place(), -1);
        fault("x < 1", 1, 0);
        fault("  x < 1", 1, 2);
        fault("a < 1 and foo", 1, 10);
        fault("a?", 1, 1);
        fault("true 12345", 1, 5);
    }

    private void placeOfOrder() {
        world(1, 5);
        fault("", 2, 0);
        fault("   ", 2, 3);
        fault("a", 2, 1);
        fault("a  ", 2, 3);
        fault("a < ", 2, 4);
        fault("a < 1 )", 2, 6);
        fault("(a < 1 ", 2, 7);
        fault("(a) < 1", 2, 2);
        fault("a < (1)", 2, 4);
        fault("a < 1 < 2", 2, 6);
        fault("true < 1", 2, 5);
        fault("a < true ?", 2, 4);
        fault("1a<2", 2, 1);
        fault("not and", 2, 4);
        fault("a<1 12345", 1, 4);
        fault("a<1 1234", 2, 4);
        fault("a * / b < 1", 2, 4);
        fault("a + + b < 1", 2, 4);
        fault("a < b or - c", 2, 12);
        fault("a and b < 1", 2, 2);
    }

    private void placeOfSize() {
        world(1, 5);
        // a< and then b+ .. b: 60 tokens are right only where the last is a LEAF
        String sixty = "0<" + repeat("1+", 28) + "1=";
        due("59 tokens", rule(0, "a<" + repeat("b+", 28) + "b"), 0);
        due("60 tokens", rule(0, "a<-" + repeat("b+", 28) + "b"), 0);
        due("no place", x.place(), -1);
        due("60 tokens and blanks", rule(0, "a<-" + repeat("b+", 28) + "b  "), 0);
        fault("a<--" + repeat("b+", 28) + "b", 3, 60);
        fault("a<-" + repeat("b+", 28) + "b+", 3, 60);
        fault("a<-" + repeat("b+", 28) + "b +b", 3, 61);
        fault("a<-" + repeat("b+", 28) + "b and e", 3, 61);
        fault("a<-" + repeat("b+", 28) + "b c", 2, 61);
        fault("a<-" + repeat("b+", 28) + "b)", 2, 60);
        fault("a<-" + repeat("b+", 28) + "b e", 1, 61);
        fault("a<-" + repeat("b+", 28) + "b 12345", 1, 61);
        fault(repeat("-", 60), 2, 60);
        fault(repeat("-", 61), 3, 60);
        fault(sixty, 2, 59);

        String twelve = repeat("(", 12);
        due("12 brackets", rule(0, twelve + "true" + repeat(")", 12)), 1);
        fault(repeat("(", 13) + "true" + repeat(")", 13), 3, 12);
        due("12 nots", rule(0, repeat("not ", 12) + "true"), 1);
        fault(repeat("not ", 13) + "true", 3, 48);
        fault(repeat("not(", 6) + "not true", 3, 24);
        due("6 of each", rule(0, repeat("not(", 6) + "true" + repeat(")", 6)), 1);
        due("a not is shut by its ONE's end", rule(0, repeat("not ", 12) + "true and " + repeat("not ", 12) + "true"), 1);
        due("within a bracket too", rule(0, "(" + repeat("not ", 11) + "true or not a<1) and not " + repeat("(", 11) + "false" + repeat(")", 11)), 1);
        fault("(" + repeat("not ", 11) + "true or " + repeat("not ", 12) + "true)", 3, 97);
        due("brackets that are shut do not count", rule(0, repeat("(true)and ", 6) + twelve + "true" + repeat(")", 12)), 1);
        due("a bracket behind 12 that are shut", rule(0, twelve + "true" + repeat(")", 12) + "and" + twelve + "true" + repeat(")", 12)), 1);
        fault(twelve + "a(", 2, 13);
        fault(twelve + "a<not", 2, 14);
        fault(twelve + "true not", 2, 17);
        fault(twelve + "nota", 1, 12);
    }

    private void close() {
        world(2, 5, 6);
        due("close", x.close(0, 15), 0);
        due("close", x.close(0, 5), 15);
        due("close", x.close(0, 0), 5);
        due("the other's", x.close(1, 2), 0);
        due("mask above 15", x.close(1, 16), -2);
        due("mask below 0", x.close(1, -1), -2);
        due("it stays", x.close(1, 2), 2);
        due("no user", x.close(2, 1), -1);
        due("NONE ahead of BAD", x.close(-1, 16), -1);
        due("open", value(0, 0, 0), 5);
        x.close(0, 1);
        due("hidden from the next ask on", value(0, 0, 0), KEPT);
        due("another field is open", value(0, 0, 1), 0);
        x.close(0, 8);
        due("open again", value(0, 0, 0), 5);
        due("no ask", x.told(3), 4);
    }

    private void seen() {
        world(1, 0, 1, 2, 3);
        rule(0, "6 / a > 2");
        due("seen", x.seen(0, 0), 2);
        due("not seen", x.seen(0, 1), 2);
        due("not seen by an error", x.seen(0, 2), 1);
        due("what is 3", x.seen(0, 3), -2);
        due("what is -1", x.seen(0, -1), -2);
        due("NONE ahead of BAD", x.seen(1, 3), -1);
        due("no user", x.seen(-1, 0), -1);
        due("no ask", x.told(3), 0);
        x.set(0, 0, 2);
        due("seen by now", x.seen(0, 0), 3);
        x.close(0, 15);
        due("closed fields do not matter", x.seen(0, 0), 3);
    }

    private void ask() {
        world(2, 5, 6, 7, 8);
        rule(0, "a < 8");
        due("matches", ask(0, "a > 5"), 2);
        due("tape is empty", x.told(2), 0);
        due("matches of another user", ask(1, "a > 5"), 3);
        due("none", ask(0, "a = 8"), 0);
        due("an error matches not", ask(0, "1/b=1 or a=7"), 2);
        due("a fault", ask(0, "a = 8 e"), -11);
        due("tape is empty", x.told(2), 0);
        x.close(0, 2);
        due("barred", ask(0, "true or b=1"), -6);
        due("tape is empty", x.told(2), 0);
        due("not barred", ask(0, "a=5 or c=1 or d=1"), 1);
        due("not barred for another user", ask(1, "b=1"), 1);
        due("a fault goes ahead of BARRED", ask(0, "b=1 b"), -12);
        type("true");
        due("no user", x.ask(2), -1);
        due("no user", x.ask(-1), -1);
        due("the tape stays", x.told(2), 4);
        due("the next rule acts", rule(0, "a>5"), 3);
        type("true");
        due("ask", x.ask(0), 3);
        fillAudit();
        type("e");
        due("FULL", x.ask(0), -4);
        due("the tape stays", x.told(2), 1);
        due("no user ahead of FULL", x.ask(2), -1);
    }

    private void found() {
        world(2, 5, 6, 7, 8);
        due("none yet", x.found(0), -1);
        ask(0, "a=6 or a=8");
        due("found", x.found(0), 1);
        due("found", x.found(1), 3);
        due("none", x.found(2), -1);
        due("none", x.found(-1), -1);
        due("none", x.found(HIGH), -1);
        due("none", x.found(LOW), -1);
        due("a fault tells nothing", ask(0, "a"), -12);
        due("found as before", x.found(1), 3);
        x.close(0, 1);
        due("barred", ask(0, "a=5"), -6);
        due("found as before", x.found(0), 1);
        cursor(1, "true");
        due("a cursor finds none", x.found(0), 1);
        rule(0, "false");
        x.set(1, 0, 0);
        due("as it was then", x.found(0), 1);
        due("ask of another user", ask(1, "a=7"), 1);
        due("the latest", x.found(0), 2);
        due("none", x.found(1), -1);
        due("none match", ask(1, "false"), 0);
        due("none", x.found(0), -1);
    }

    private void value() {
        world(2, 5, 6, 7);
        due("value", value(0, 2, 0), 7);
        due("value", value(1, 1, 1), 1);
        due("again", value(0, 2, 0), 7);
        due("solved", x.solved(0, 0, 2), 1);
        due("not for another", x.solved(1, 0, 2), 0);
        due("no user", value(2, 0, 0), OUT);
        due("no user", value(-1, 0, 0), OUT);
        due("no object", value(0, 3, 0), OUT);
        due("no object", value(0, -1, 0), OUT);
        due("no field", value(0, 0, 4), OUT);
        due("no field", value(0, 0, -1), OUT);
        due("no object", value(0, 32, 0), OUT);
        rule(0, "a < 7");
        due("hidden, though it is solved", value(0, 2, 0), KEPT);
        due("in the audit", x.audit(x.told(3) - 1, 4), 1);
        due("sum of one that is solved", sum(0, 0, 4), 7);
        due("pair", sum(0, 1, 6), 3);
        due("1 would solve 2, which is hidden", value(0, 1, 1), KEPT);
        due("still not solved", x.solved(0, 1, 1), 0);
        due("0 does not", value(0, 0, 1), 0);
        rule(0, "1/b = 1");
        due("not seen by an error", value(0, 0, 0), KEPT);
        fillAudit();
        due("the audit is full", value(0, 1, 0), LATE);
        due("full ahead of hidden", value(0, 0, 0), LATE);
        due("no object ahead of full", value(0, 3, 0), OUT);
        due("not solved by it", x.solved(0, 0, 1), 0);
    }

    private void sum() {
        world(2, -1000, 900, 70, 5);
        x.set(3, 2, 40);
        due("sum of all", sum(0, 0, 15), -25);
        due("sum", sum(0, 0, 10), 905);
        due("sum of another field", sum(0, 2, 12), 40);
        due("sum of one that is open", sum(0, 0, 1), -1000);
        due("set is 0", sum(0, 0, 0), OUT);
        due("a bit of no object", sum(0, 0, 16), OUT);
        due("a bit of no object", sum(0, 0, 17), OUT);
        due("all bits", sum(0, 0, -1), OUT);
        due("the highest bit", sum(0, 0, LOW), OUT);
        due("no field", sum(0, 4, 1), OUT);
        due("no field", sum(0, -1, 1), OUT);
        due("no user", sum(2, 0, 1), OUT);
        due("no user", sum(-1, 0, 1), OUT);
        due("refused ones are not in the audit", x.told(3), 4);
        fillAudit();
        due("the audit is full", sum(0, 0, 15), LATE);
        due("no set ahead of full", sum(0, 0, 16), OUT);
        due("as before", x.rows(0, 0), 3);
        x = new Calls();
        x.user();
        due("no objects", sum(0, 0, 1), OUT);
        world(1, 1000, 1000, 1000, 1000, 1000, 1000, 1000, 1000, 1000, 1000, 1000, 1000);
        due("12 objects", sum(0, 0, 4095), 12000);
        due("the 13th bit", sum(0, 0, 4096), OUT);
    }

    private void sumKeptBack() {
        world(2, 5, 7, 9, 11);
        rule(0, "b < 2");
        due("sum of all", sum(0, 0, 15), 32);
        due("would solve 3", sum(0, 0, 7), KEPT);
        due("kept back in the audit", x.audit(1, 4), 1);
        due("not told", x.rows(0, 0), 1);
        due("sum of the open ones", sum(0, 0, 3), 12);
        due("what follows from it", sum(0, 0, 12), 20);
        due("one that is hidden", sum(0, 0, 4), KEPT);
        due("with one that is open", sum(0, 0, 6), 16);
        due("which would solve all now", value(0, 1, 0), KEPT);
        due("another user's sums do not matter", sum(1, 0, 4), 9);
        due("another field's do not", sum(0, 1, 7), 3);

        world(1, 5, 7, 9);
        x.close(0, 1);
        due("closed: pair", sum(0, 0, 3), 12);
        due("closed: one", sum(0, 0, 1), KEPT);
        due("closed: the second pair", sum(0, 0, 6), 16);
        due("closed: the third pair would solve all", sum(0, 0, 5), KEPT);
        x.close(0, 2);
        due("open: the third pair", sum(0, 0, 5), 14);
        x.close(0, 1);
        due("solved already", sum(0, 0, 1), 5);
        due("solved already", sum(0, 0, 7), 21);
        due("value is hidden all the same", value(0, 0, 0), KEPT);
    }

    private void cell() {
        world(2, 5, 6, 7, 7);
        due("cell", x.cell(0, 0, 6, 7), 3);
        due("one value", x.cell(0, 0, 5, 5), 1);
        due("all", x.cell(0, 0, LOW, HIGH), 4);
        due("none", x.cell(0, 0, 8, 1000), 0);
        due("high below low", x.cell(0, 0, 7, 6), -2);
        due("high below low", x.cell(0, 0, HIGH, LOW), -2);
        due("another field", x.cell(0, 1, 1, 2), 2);
        rule(0, "a < 7");
        due("seen ones alone", x.cell(0, 0, 6, 7), 1);
        due("no user", x.cell(2, 0, 0, 0), -1);
        due("no user", x.cell(-1, 0, 0, 0), -1);
        due("no field", x.cell(0, 4, 0, 0), -1);
        due("NONE ahead of BAD", x.cell(0, -1, 1, 0), -1);
        x.close(0, 2);
        due("barred", x.cell(0, 1, 0, 9), -6);
        due("BAD ahead of BARRED", x.cell(0, 1, 9, 0), -2);
        due("another field", x.cell(0, 2, 0, 9), 2);
        due("another user", x.cell(1, 1, 0, 9), 4);
        due("nothing was TOLD", x.told(4), 0);
        fillAudit();
        due("FULL", x.cell(0, 0, 0, 0), -4);
        due("FULL ahead of BARRED", x.cell(0, 1, 0, 9), -4);
        due("BAD ahead of FULL", x.cell(0, 1, 9, 0), -2);
    }

    private void cursor() {
        world(2, 5, 6, 7);
        due("cursor", cursor(0, "a > 5"), 1);
        due("tape is empty", x.told(2), 0);
        due("step", x.step(0), 1);
        due("a fault", cursor(0, "a > 5 5"), -12);
        due("tape is empty", x.told(2), 0);
        x.close(0, 2);
        due("barred", cursor(0, "b = 2"), -6);
        due("tape is empty", x.told(2), 0);
        due("the cursor stays as it was", x.step(0), 2);
        due("cursor anew", cursor(0, "a < 7"), 1);
        due("ahead of all", x.step(0), 0);
        due("the other user has none", x.step(1), -5);
        due("a barred one is none", x.close(1, 1), 0);
        due("barred", cursor(1, "a=5"), -6);
        due("none", x.step(1), -5);
        due("a fault is none", cursor(1, "c"), -12);
        due("none", x.step(1), -5);
        type("true");
        due("no user", x.cursor(2), -1);
        due("no user", x.cursor(-1), -1);
        due("the tape stays", x.told(2), 4);
        due("cursor", x.cursor(1), 1);
        due("the first one's stays", x.step(0), 1);
        fillAudit();
        type("true");
        due("FULL", x.cursor(0), -4);
        due("the tape stays", x.told(2), 4);
        due("NONE ahead of FULL", x.cursor(2), -1);
    }

    private void step() {
        world(2, 5, 6, 7, 8);
        due("no user", x.step(2), -1);
        due("no user", x.step(-1), -1);
        due("no cursor", x.step(0), -5);
        cursor(0, "a > 5 and c = 0");
        due("step", x.step(0), 1);
        rule(0, "a = 8");
        due("the rule by now", x.step(0), 3);
        due("none", x.step(0), -3);
        due("none", x.step(0), -3);
        due("told something", x.audit(x.told(3) - 1, 4), 0);
        x.object();
        x.set(4, 0, 8);
        due("one that came later", x.step(0), 4);
        due("none", x.step(0), -3);
        x.object();
        due("none, as that one is not seen", x.step(0), -3);
        x.set(5, 0, 8);
        due("it stands behind that one", x.step(0), -3);
        cursor(0, "a > 5 and c = 0");
        rule(0, "true");
        x.set(0, 0, 6);
        due("values by now", x.step(0), 0);
        x.close(0, 4);
        due("barred", x.step(0), -6);
        x.close(0, 2);
        due("the cursor stood", x.step(0), 1);
        due("ask does not move it", ask(0, "true"), 6);
        due("step", x.step(0), 2);
        x.close(0, 1);
        fillAudit();
        due("FULL ahead of BARRED", x.step(0), -4);
        due("STATE ahead of FULL", x.step(1), -5);
        due("NONE ahead of STATE", x.step(4), -1);
    }

    private void solved() {
        world(2, 5, 6, 7);
        due("not yet", x.solved(0, 0, 0), 0);
        sum(0, 0, 3);
        sum(0, 0, 6);
        due("not by two pairs", x.solved(0, 0, 1), 0);
        sum(0, 0, 5);
        for (int i = 0; i < 3; i++) {
            due("by three pairs", x.solved(0, 0, i), 1);
            due("not in another field", x.solved(0, 1, i), 0);
            due("not for another user", x.solved(1, 0, i), 0);
        }
        due("no user", x.solved(2, 0, 0), -1);
        due("no user", x.solved(-1, 0, 0), -1);
        due("no field", x.solved(0, 4, 0), -1);
        due("no field", x.solved(0, -1, 0), -1);
        due("no object", x.solved(0, 0, 3), -1);
        due("no object", x.solved(0, 0, -1), -1);
    }

    private void would() {
        world(2, 5, 6, 7);
        due("by itself", x.would(0, 0, 1, 2), 1);
        due("not by two", x.would(0, 0, 1, 3), 0);
        sum(0, 0, 7);
        due("by the others", x.would(0, 0, 2, 3), 1);
        due("not by one other", x.would(0, 0, 2, 1), 0);
        due("nor that other's partner", x.would(0, 0, 1, 1), 0);
        due("not in another field", x.would(0, 1, 2, 3), 0);
        due("not for another user", x.would(1, 0, 2, 3), 0);
        due("it tells nothing", x.solved(0, 0, 2), 0);
        due("it tells nothing", x.rows(0, 0), 1);
        due("no ask", x.told(3), 1);
        sum(0, 0, 3);
        due("it is solved already", x.would(0, 0, 2, 1), 1);
        rule(0, "false");
        due("rights do not matter", x.would(0, 0, 0, 1), 1);
        due("no user", x.would(2, 0, 0, 1), -1);
        due("no field", x.would(0, 4, 0, 1), -1);
        due("no object", x.would(0, 0, 3, 1), -1);
        due("NONE ahead of BAD", x.would(0, -1, 0, 0), -1);
        due("NONE ahead of BAD", x.would(0, 0, -1, 0), -1);
        due("set is 0", x.would(0, 0, 0, 0), -2);
        due("a bit of no object", x.would(0, 0, 0, 8), -2);
        due("a bit of no object", x.would(0, 0, 0, LOW), -2);
        due("a bit of no object", x.would(0, 0, 0, -1), -2);
    }

    private void worldIs(int object, long... numbers) {
        for (int k = 0; k < numbers.length; k++) {
            due("world(0, 0, " + object + ", " + k + ")", x.world(0, 0, object, k), numbers[k]);
        }
    }

    private void world() {
        world(2, 1, 2, 3, 4, 5);
        worldIs(1, 0, 1, 0, 0, 0);
        sum(0, 0, 3);
        sum(0, 0, 6);
        worldIs(0, 1, -1, 1, 0, 0);
        worldIs(1, 1, -1, 1, 0, 0);
        worldIs(2, 1, -1, 1, 0, 0);
        worldIs(3, 0, 0, 0, 1, 0);
        sum(0, 0, 16);
        due("STATE: it is solved", x.world(0, 0, 4, 0), -5);
        due("another user", x.world(1, 0, 4, 4), 1);
        due("another field", x.world(0, 1, 4, 4), 1);
        due("no user", x.world(2, 0, 0, 0), -1);
        due("no user", x.world(-1, 0, 0, 0), -1);
        due("no field", x.world(0, 4, 0, 0), -1);
        due("no field", x.world(0, -1, 0, 0), -1);
        due("no object", x.world(0, 0, 5, 0), -1);
        due("no object", x.world(0, 0, -1, 0), -1);
        due("no k", x.world(0, 0, 0, 5), -1);
        due("no k, ahead of STATE", x.world(0, 0, 4, -1), -1);

        // three sets of three of four: the fractions are thirds and halves
        world(1, 1, 2, 3, 4);
        sum(0, 0, 7);
        sum(0, 0, 11);
        worldIs(0, -1, 1, 0, 0);
        worldIs(2, -1, 0, 1, 1);
        worldIs(3, -1, 0, 1, 1);
        sum(0, 0, 13);
        worldIs(0, -2, 1, 1, 1);
        worldIs(1, -2, 1, 1, 1);

        // 0+1, 1+2, 0+2+3: 0 has half of 3 with the other sign, 1 half of it, ..
        world(1, 1, 2, 3, 4);
        sum(0, 0, 3);
        sum(0, 0, 6);
        sum(0, 0, 13);
        worldIs(0, -1, 1, -1, 2);
        worldIs(3, -1, 1, -1, 2);

        // halves and thirds together ask for sixes
        world(1, 1, 2, 3, 4, 5, 6, 7, 8);
        int[] sets = {3, 6, 5 + 128, 8 + 16 + 32, 8 + 16 + 64, 8 + 32 + 64, 16 + 32 + 64 + 128};
        for (int set : sets) {
            sum(0, 0, set);
        }
        worldIs(7, -3, 3, -3, 4, -2, -2, -2, 6);
        worldIs(0, -3, 3, -3, 4, -2, -2, -2, 6);
        due("rows", x.rows(0, 0), 7);
    }

    private void rows() {
        world(2, 1, 2, 3);
        due("none", x.rows(0, 0), 0);
        sum(0, 0, 3);
        due("one", x.rows(0, 0), 1);
        sum(0, 0, 3);
        due("the same again", x.rows(0, 0), 1);
        sum(0, 0, 7);
        due("two", x.rows(0, 0), 2);
        sum(0, 0, 4);
        due("what follows is no row more", x.rows(0, 0), 2);
        value(0, 1, 0);
        due("three", x.rows(0, 0), 3);
        sum(0, 0, 5);
        due("never more than objects", x.rows(0, 0), 3);
        due("another field", x.rows(0, 1), 0);
        due("another user", x.rows(1, 0), 0);
        due("no user", x.rows(2, 0), -1);
        due("no user", x.rows(-1, 0), -1);
        due("no field", x.rows(0, 4), -1);
        due("no field", x.rows(0, -1), -1);
    }

    private void entry(int i, int... numbers) {
        for (int what = 0; what < 5; what++) {
            due("audit(" + i + ", " + what + ")", x.audit(i, what), numbers[what]);
        }
    }

    private void audit() {
        world(3, 5, 6, 7, 8);
        due("none", x.audit(0, 0), -1);
        ask(1, "true");
        x.cell(2, 3, -7, 9);
        cursor(1, "true and c = 0");
        x.step(1);
        value(2, 3, 1);
        sum(1, 3, 6);
        entry(0, 1, 0, 0, 0, 0);
        entry(1, 2, 3, 3, -7, 0);
        entry(2, 1, 4, 0, 0, 0);
        entry(3, 1, 5, 0, 0, 0);
        entry(4, 2, 1, 3, 1, 0);
        entry(5, 1, 2, 3, 6, 0);
        x.close(1, 4);
        ask(1, "c = 0");
        ask(1, "c");
        x.cell(1, 2, 1, 2);
        cursor(1, "c = 1");
        cursor(1, "?");
        x.step(1);
        value(1, 0, 2);
        sum(1, 2, 8);
        entry(6, 1, 0, 0, 0, 2);
        entry(7, 1, 0, 0, 0, 3);
        entry(8, 1, 3, 2, 1, 2);
        entry(9, 1, 4, 0, 0, 2);
        entry(10, 1, 4, 0, 0, 3);
        entry(11, 1, 5, 0, 0, 2);
        entry(12, 1, 1, 0, 2, 1);
        entry(13, 1, 2, 2, 8, 1);
        ask(3, "true");
        x.cell(0, 0, 1, 0);
        x.cell(0, 4, 1, 1);
        x.step(0);
        value(0, 0, 4);
        sum(0, 0, 0);
        due("what is refused is not there", x.told(3), 14);
        due("NONE", x.audit(14, 0), -1);
        due("NONE", x.audit(-1, 0), -1);
        due("NONE", x.audit(HIGH, 0), -1);
        due("NONE ahead of BAD", x.audit(14, 5), -1);
        due("BAD", x.audit(0, 5), -2);
        due("BAD", x.audit(0, -1), -2);
        due("BAD", x.audit(0, LOW), -2);
    }

    private void fullAudit() {
        world(1, 5, 6);
        cursor(0, "true");
        fillAudit();
        due("150 entries", x.told(3), 150);
        type("true");
        due("ask", x.ask(0), -4);
        due("cursor", x.cursor(0), -4);
        due("cell", x.cell(0, 0, 0, 0), -4);
        due("step", x.step(0), -4);
        due("value", value(0, 0, 0), LATE);
        due("sum", sum(0, 0, 1), LATE);
        due("still 150", x.told(3), 150);
        due("the last", x.audit(149, 1), 3);
        due("none behind it", x.audit(150, 1), -1);
        due("nobody was told", x.told(4), 0);
        due("a rule is no ask", x.rule(0), 2);
    }

    private void told() {
        world(3, 5, 6);
        x.type(0, 7);
        due("objects", x.told(0), 2);
        due("users", x.told(1), 3);
        due("bytes", x.told(2), 7);
        due("entries", x.told(3), 0);
        ask(0, "true");
        due("entries", x.told(3), 1);
        x.cell(0, 0, 0, 9);
        cursor(0, "true");
        x.step(0);
        x.close(0, 1);
        sum(0, 0, 1);
        value(0, 0, 0);
        due("nobody was TOLD", x.told(4), 0);
        sum(0, 0, 3);
        due("somebody was TOLD", x.told(4), 1);
        due("entries", x.told(3), 7);
        due("BAD", x.told(5), -2);
        due("BAD", x.told(-1), -2);
        due("BAD", x.told(HIGH), -2);
        due("BAD", x.told(LOW), -2);
        world(1, 5);
        value(0, 0, 1);
        due("by value too", x.told(4), 1);
    }

    private void clear() {
        world(4, 5, 6, 7);
        ask(0, "true");
        cursor(0, "true");
        x.close(0, 3);
        sum(0, 0, 7);
        value(1, 0, 0);
        rule(2, "?");
        type("true");
        x.clear();
        allAsAtFirst();
        due("object()", x.object(), 0);
        due("user()", x.user(), 0);
        due("none is closed", x.close(0, 0), 0);
        due("the rule is false", x.seen(0, 1), 1);
        due("no cursor", x.step(0), -5);
        due("nothing is solved", x.solved(0, 0, 0), 0);
        due("no rows", x.rows(0, 0), 0);
        due("value 0", rule(0, "a=0 and b=0"), 1);
        due("another object()", x.object(), 1);
        due("value 0", x.seen(0, 0), 2);
        due("second user", x.user(), 1);
        due("nothing is solved", x.solved(1, 0, 0), 0);
        due("no rows", x.rows(1, 0), 0);
        x.clear();
        x.clear();
        allAsAtFirst();
    }
}
