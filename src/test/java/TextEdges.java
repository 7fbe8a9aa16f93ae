/** The edges of the tape and of texts: promises 5 to 7, and what 10 and 15 take as a text. */
public final class TextEdges extends Edges {
    private static final int FALSE = 0, TRUE = 1, ERROR = 2;
    private static final String[] TRUTHS = {"1=2", "1=1", "1/0=1"};

    /** 2 to the 63rd: by 64 bits that wrap the least number that there is. */
    private static final String LEAST = "4096*4096*4096*4096*4096*8";

    /** 60 tokens that make a right text of 61 bytes. */
    private static final String SIXTY = "a<-" + "b+".repeat(28) + "b";

    /**
     * Where a text can stand: what it has so far; the tokens that can come (. its end); how many ( and not are open,
     * and how many were so at most.
     */
    private static final String[][] STANDS = {
        {"", "a 1 true false ( not -", "0", "0"},
        {"not", "a 1 true false ( not -", "1", "1"},
        {"not not", "a 1 true false ( not -", "2", "2"},
        {"(", "a 1 true false ( not -", "1", "1"},
        {"( not", "a 1 true false ( not -", "2", "2"},
        {"true and", "a 1 true false ( not -", "0", "0"},
        {"true or", "a 1 true false ( not -", "0", "0"},
        {"( true or", "a 1 true false ( not -", "1", "1"},
        {"( a < 1 and", "a 1 true false ( not -", "1", "1"},
        {"not true and", "a 1 true false ( not -", "0", "1"},
        {"not a < 1 or", "a 1 true false ( not -", "0", "1"},
        {"not not true or", "a 1 true false ( not -", "0", "2"},
        {"( true ) and", "a 1 true false ( not -", "0", "1"},
        {"not ( true ) and", "a 1 true false ( not -", "0", "2"},
        {"( not true ) or", "a 1 true false ( not -", "0", "2"},
        {"not ( not true and", "a 1 true false ( not -", "2", "3"},
        {"-", "a 1 -", "0", "0"},
        {"- -", "a 1 -", "0", "0"},
        {"a", "+ - * / < = >", "0", "0"},
        {"1", "+ - * / < = >", "0", "0"},
        {"- a", "+ - * / < = >", "0", "0"},
        {"( a", "+ - * / < = >", "1", "1"},
        {"not 1", "+ - * / < = >", "1", "1"},
        {"a + 1", "+ - * / < = >", "0", "0"},
        {"a * b", "+ - * / < = >", "0", "0"},
        {"a +", "a 1 -", "0", "0"},
        {"a -", "a 1 -", "0", "0"},
        {"a *", "a 1 -", "0", "0"},
        {"a /", "a 1 -", "0", "0"},
        {"a <", "a 1 -", "0", "0"},
        {"a =", "a 1 -", "0", "0"},
        {"a >", "a 1 -", "0", "0"},
        {"a < -", "a 1 -", "0", "0"},
        {"a < 1 +", "a 1 -", "0", "0"},
        {"a < 1 -", "a 1 -", "0", "0"},
        {"a < 1 *", "a 1 -", "0", "0"},
        {"a < 1 /", "a 1 -", "0", "0"},
        {"a < 1", "+ - * / and or .", "0", "0"},
        {"a = b", "+ - * / and or .", "0", "0"},
        {"a > - b", "+ - * / and or .", "0", "0"},
        {"a < 1 + b", "+ - * / and or .", "0", "0"},
        {"( a < 1", "+ - * / and or )", "1", "1"},
        {"( not a < 1", "+ - * / and or )", "2", "2"},
        {"true", "and or .", "0", "0"},
        {"false", "and or .", "0", "0"},
        {"not true", "and or .", "1", "1"},
        {"( true", "and or )", "1", "1"},
        {"( not false", "and or )", "2", "2"},
        {"( true )", "and or .", "0", "1"},
        {"not ( true )", "and or .", "1", "2"},
        {"( ( true )", "and or )", "1", "2"},
        {"true and false", "and or .", "0", "0"},
        {"true or false", "and or .", "0", "0"},
        {"true or a < 1", "+ - * / and or .", "0", "0"},
    };
    private static final String[] TOKENS = {"a", "b", "c", "d", "0", "9999", "true", "false", "(", ")", "or", "and", "not", "<", "=", ">", "+",
        "-", "*", "/"};

    public static void main(String[] args) {
        tape();
        tokens();
        orders();
        faults();
        sums();
        truths();
        takers();
        end();
    }

    // ---- what the edges are written with

    private static int take(Calls x, int taker) {
        return taker == 0 ? x.rule(0) : taker == 1 ? x.ask(0) : x.cursor(0);
    }

    private static String name(int taker, String text) {
        return (taker == 0 ? "rule(0)" : taker == 1 ? "ask(0)" : "cursor(0)") + " of [" + text + "]";
    }

    /** By each of the three calls that take a text. */
    private static void fault(String text, int fault, int place) {
        for (int taker = 0; taker < 3; taker++) {
            Calls x = Calls.with(1, 5);
            due("type of [" + text + "]", x.write(text), text.length());
            due(name(taker, text), take(x, taker), -10 - fault);
            due("place() behind " + name(taker, text), x.place(), place);
            due("told(2) behind " + name(taker, text), x.told(2), 0);
        }
    }

    private static void right(String text) {
        for (int taker = 0; taker < 3; taker++) {
            Calls x = Calls.with(1, 5);
            due("type of [" + text + "]", x.write(text), text.length());
            due(name(taker, text) + " has no fault", take(x, taker) >= 0 ? 1 : 0, 1);
            due("place() behind " + name(taker, text), x.place(), NONE);
            due("told(2) behind " + name(taker, text), x.told(2), 0);
        }
    }

    /** As a RULE by seen(), as a QUERY by ask(), and by a cursor's step(). */
    private static void truth(String text, int truth, int... values) {
        Calls x = new Calls();
        x.object();
        for (int field = 0; field < values.length; field++) {
            x.set(0, field, values[field]);
        }
        x.user();
        due("rule of " + text, x.rule(0, text), truth == TRUE ? 1 : 0);
        due("seen by " + text, x.seen(0, 0), truth == TRUE ? 1 : 0);
        due("not seen by " + text, x.seen(0, 1), truth == TRUE ? 0 : 1);
        due("errors of " + text, x.seen(0, 2), truth == ERROR ? 1 : 0);
        x.rule(0, "true");
        due("ask of " + text, x.ask(0, text), truth == TRUE ? 1 : 0);
        due("cursor of " + text, x.cursor(0, text), 1);
        due("step of " + text, x.step(0), truth == TRUE ? 0 : NO_MORE);
    }

    private static void areTrue(String... texts) {
        for (String text : texts) {
            truth(text, TRUE, 7, 0, 1000, -1000);
        }
    }

    private static void areFalse(String... texts) {
        for (String text : texts) {
            truth(text, FALSE, 7, 0, 1000, -1000);
        }
    }

    private static void areErrors(String... texts) {
        for (String text : texts) {
            truth(text, ERROR, 7, 0, 1000, -1000);
        }
    }

    // ---- the tape

    private static void tape() {
        edge(5, "the n lowest bytes of v, the highest first", TextEdges::lowestBytes);
        edge(5, "how many it has", TextEdges::howMany);
        edge(5, "n = 0: it is empty: 0", TextEdges::emptied);
        edge(5, "BAD n is not 0 .. 8", TextEdges::badNumbers);
        edge(5, "the tape has at most 300 bytes; FULL", TextEdges::fullTape);
        edge(5, "BAD, FULL: the first that fits", TextEdges::badAheadOfFull);
        edge(6, "a text of 300 bytes", TextEdges::longestText);
        edge(6, "what takes it as a text empties it, right or not", TextEdges::takenTapes);
        edge(7, "NONE, if it had none, or before", TextEdges::placeBefore);
        edge(7, "the latest text that was taken", TextEdges::placeOfLatest);
    }

    /** Of the figures 12345678 as bytes the n lowest must be the number of the last n figures. */
    private static void lowestBytes() {
        long figures = 0x3132333435363738L;
        String[] texts = {"", "8", "78", "678", "5678"};
        for (int n = 1; n <= 4; n++) {
            Calls x = new Calls();
            x.objects(1);
            x.user();
            x.type(figures, n);
            x.type(0x3DL, 1);
            for (int i = 0; i < n; i++) {
                x.type(texts[n].charAt(i), 1);
            }
            due("type(.., " + n + ") as a number", x.rule(0), 1);
        }
        for (int n = 5; n <= 8; n++) {
            Calls x = new Calls();
            x.objects(1);
            x.user();
            long v = 0x20313C3220202020L;
            due("type", x.type(v >>> 8 * (8 - n), n), n);
            due("1<2 by type(.., " + n + ")", x.rule(0), 1);
        }
        Calls x = new Calls();
        x.objects(1);
        x.user();
        x.type(0xFFFFFFFFFFFF0031L, 1);
        x.type(0x8000000000003C32L, 2);
        due("bytes above the n lowest do not come", x.rule(0), 1);
        due("bytes that are 0 come", x.type(0x31L, 2), 2);
        due("they begin no token", x.rule(0), FAULT_1);
        due("place()", x.place(), 0);
        due("bytes of 255 come", x.type(-1L, 8), 8);
        due("they begin no token", x.rule(0), FAULT_1);
        due("all eight", x.type(0x28312B323D332900L, 8), 8);
        due("the last is 0", x.rule(0), FAULT_1);
        due("place()", x.place(), 7);
    }

    private static void howMany() {
        Calls x = new Calls();
        int length = 0;
        for (int n = 1; n <= 8; n++) {
            length += n;
            due("type(0, " + n + ")", x.type(0, n), length);
            due("told(2)", x.told(2), length);
        }
    }

    private static void emptied() {
        Calls x = new Calls();
        due("of an empty tape", x.type(-1L, 0), 0);
        x.type(0x74L, 1);
        due("of one byte", x.type(HIGH, 0), 0);
        due("told(2)", x.told(2), 0);
        x.write(" ".repeat(300));
        due("of a full one", x.type(Long.MIN_VALUE, 0), 0);
        due("told(2)", x.told(2), 0);
        due("from the start again", x.type(0x74727565L, 4), 4);
        x.objects(1);
        x.user();
        due("nothing of what it was", x.rule(0), 1);
    }

    private static void badNumbers() {
        int[] bad = {-1, 9, -8, 10, 64, 256, LOW, HIGH};
        for (int n : bad) {
            Calls x = Calls.with(1, 5);
            x.write("a = 5");
            due("type(.., " + n + ")", x.type(0x2061, n), BAD);
            due("told(2)", x.told(2), 5);
            due("the tape is as it was", x.rule(0), 1);
        }
        Calls x = new Calls();
        due("the most", x.type(0, 8), 8);
        due("the least that adds", x.type(0, 1), 9);
        due("the least", x.type(0, 0), 0);
    }

    private static void fullTape() {
        for (int n = 1; n <= 8; n++) {
            Calls x = Calls.with(1, 5);
            x.write("true" + " ".repeat(296 - n));
            due("told(2)", x.told(2), 300 - n);
            if (n < 8) {
                due("type(.., " + (n + 1) + ") at " + (300 - n), x.type(-1L, n + 1), FULL);
                due("told(2)", x.told(2), 300 - n);
            }
            due("type(.., " + n + ") at " + (300 - n), x.type(0x2020202020202020L, n), 300);
            for (int more = 1; more <= 8; more++) {
                due("type(.., " + more + ") at 300", x.type(-1L, more), FULL);
            }
            due("told(2)", x.told(2), 300);
            due("what was refused did not come", x.rule(0), 1);
        }
    }

    private static void badAheadOfFull() {
        Calls x = new Calls();
        x.write(" ".repeat(300));
        due("type(0, 9) at 300", x.type(0, 9), BAD);
        due("type(0, -1) at 300", x.type(0, -1), BAD);
        due("type(0, 8) at 300", x.type(0, 8), FULL);
        due("type(0, 0) at 300", x.type(0, 0), 0);
    }

    private static void longestText() {
        right(" ".repeat(296) + "true");
        right("true" + " ".repeat(296));
        fault(" ".repeat(300), 2, 300);
        fault("true" + " ".repeat(295) + "?", 1, 299);
        fault("true" + " ".repeat(295) + "1", 2, 299);
        fault(" ".repeat(299) + "a", 2, 300);
        fault("z".repeat(300), 1, 0);
        fault("1".repeat(300), 1, 0);
        fault("(".repeat(300), 3, 12);
        fault("-".repeat(300), 3, 60);
        fault(" ".repeat(296) + "tru!", 1, 296);
    }

    private static void takenTapes() {
        String[] texts = {"true", "a = 5", "", "a", "?", "true true", SIXTY + "+b"};
        for (String text : texts) {
            for (int taker = 0; taker < 3; taker++) {
                Calls x = Calls.with(1, 5);
                x.write(text);
                take(x, taker);
                due("told(2) behind " + name(taker, text), x.told(2), 0);
                due("type behind " + name(taker, text), x.type(0x31, 1), 1);
            }
        }
        for (int taker = 1; taker < 3; taker++) {
            Calls x = Calls.with(1, 5);
            x.close(0, 1);
            x.write("a = 5");
            due("BARRED " + name(taker, "a = 5"), take(x, taker), BARRED);
            due("told(2)", x.told(2), 0);
        }
    }

    private static void placeBefore() {
        Calls x = new Calls();
        due("place() at first", x.place(), NONE);
        x.objects(1);
        x.user();
        x.write("?");
        due("place() as long as no text was taken", x.place(), NONE);
        for (int taker = 0; taker < 3; taker++) {
            x.write("?");
            take(x, taker);
            due("place() of a fault", x.place(), 0);
            x.write("true");
            take(x, taker);
            due("place() of none", x.place(), NONE);
        }
    }

    private static void placeOfLatest() {
        Calls x = Calls.with(1, 5);
        x.rule(0, "true ?");
        due("rule", x.place(), 5);
        x.ask(0, "a ?");
        due("ask", x.place(), 2);
        x.cursor(0, "true 1");
        due("cursor", x.place(), 5);
        x.ask(0, " ?");
        x.write("true");
        due("no user", x.rule(1) + x.ask(1) + x.cursor(1), 3 * NONE);
        due("NONE takes no text", x.place(), 1);
        x.type(0, 0);
        x.type(0, 9);
        due("type() takes no text", x.place(), 1);
        x.cell(0, 0, 0, 0);
        x.sum(0, 0, 1);
        x.step(0);
        x.close(0, 1);
        due("other calls take none", x.place(), 1);
        due("BARRED", x.ask(0, "a = 5"), BARRED);
        due("a text that is BARRED has no FAULT", x.place(), NONE);
        x.rule(0, "  ?");
        due("BARRED", x.cursor(0, "a = 5"), BARRED);
        due("a text that is BARRED has no FAULT", x.place(), NONE);
        x.rule(0, "  ?");
        x.fillAudit(150);
        x.write("true");
        due("FULL", x.ask(0), FULL);
        due("FULL", x.cursor(0), FULL);
        due("FULL takes no text", x.place(), 2);
    }

    // ---- tokens

    private static void tokens() {
        edge(6, "TOKENS: each byte 0 .. 255 alone", TextEdges::eachByte);
        edge(6, "no token begins there: each byte 0 .. 255 behind a text", TextEdges::eachByteBehind);
        edge(6, "with blanks (32) between them where one likes", TextEdges::blanks);
        edge(6, "WORDS, letters a .. z as long as can be", TextEdges::words);
        edge(6, "the FIELDS a b c d", TextEdges::fields);
        edge(6, "NUMBERS, 1 to 4 figures", TextEdges::numbers);
        edge(6, "the SIGNS", TextEdges::signs);
    }

    private static void eachByte() {
        for (int b = 0; b < 256; b++) {
            String text = "" + (char) b;
            if ("abcd0123456789(- ".contains(text)) {
                fault(text, 2, 1);
            } else if (")+*/<=>".contains(text)) {
                fault(text, 2, 0);
            } else {
                fault(text, 1, 0);
            }
        }
    }

    private static void eachByteBehind() {
        for (int b = 0; b < 256; b++) {
            String text = "1<2" + (char) b;
            char c = (char) b;
            if (c == ' ' || c >= '0' && c <= '9') {
                right(text);
            } else if ("+-*/".indexOf(c) >= 0) {
                fault(text, 2, 4);
            } else if ("abcd()<=>".indexOf(c) >= 0) {
                fault(text, 2, 3);
            } else {
                fault(text, 1, 3);
            }
        }
    }

    private static void blanks() {
        String[] tight = {"a<1and b<1", "1<2or 3<4", "not(true)and(true)", "(true)or(false)", "not-a<-b", "a<1and(not(b<1))", "(((true)))"};
        for (String text : tight) {
            right(text);
        }
        right("   not   (   true   )   and   a   <   -   1   +   b   ");
        right("  true");
        right("true  ");
        fault("tr ue", 1, 0);
        fault("a n d", 1, 2);
        fault("a nd", 1, 2);
        fault("1 2<3", 2, 2);
        fault("a b<3", 2, 2);
        fault("a<1 2", 2, 4);
        fault("true\t", 1, 4);
        fault("true\n", 1, 4);
        fault("\rtrue", 1, 0);
        fault("true\u00a0", 1, 4);
        fault("true\u0000", 1, 4);
    }

    private static void words() {
        String[] wrong = {"an", "nd", "andd", "aand", "o", "orr", "oor", "r", "no", "ot", "nott", "nnot", "t", "tru", "rue", "truee", "ttrue", "f",
            "fals", "alse", "falsee", "ffalse", "nottrue", "notnot", "andor", "trueandtrue", "ab", "aa", "dd", "abcd", "zz", "abcdefghijklmnopqrstuvwxyz"};
        for (String word : wrong) {
            fault(word, 1, 0);
            fault("true and " + word, 1, 9);
            fault("true " + word + " true", 1, 5);
        }
        for (char c = 'a'; c <= 'z'; c++) {
            fault("a" + c, 1, 0);
            fault(c + "d<1", 1, 0);
            fault("true" + c, 1, 0);
        }
        fault("nota<1", 1, 0);
        fault("true anda<1", 1, 5);
        fault("True", 1, 0);
        fault("tRue", 1, 0);
        fault("true AND true", 1, 5);
        fault("A<1", 1, 0);
        fault("`", 1, 0);
        fault("tru{", 1, 0);
        fault("true{", 1, 4);
        right("not true");
        right("not false and true or false");
    }

    private static void fields() {
        truth("a = 11 and b = 22 and c = 33 and d = 44", TRUE, 11, 22, 33, 44);
        for (char c = 'e'; c <= 'z'; c++) {
            fault(c + "=0", 1, 0);
            fault("0=" + c, 1, 2);
        }
        truth("a = 1000", TRUE, 1000);
        truth("a = -1000", TRUE, -1000);
        truth("d = 0", TRUE);
    }

    private static void numbers() {
        areTrue("0=0", "1=1", "9-8=1", "00=0", "000=0", "0000=0", "0007=a", "07=7", "9999=9998+1", "1000=c", "-1000=d", "9999>999", "999>99", "99>9",
                "10=2*5", "1234-1233=1", "0123=123");
        fault("10000=1", 1, 0);
        fault("00000=1", 1, 0);
        fault("00001=1", 1, 0);
        fault("1=10000", 1, 2);
        fault("1=99999", 1, 2);
        fault("1= -123456", 1, 4);
        fault("4294967296=0", 1, 0);
        fault("18446744073709551616=0", 1, 0);
        fault("1234 5=1", 2, 5);
        fault("1234a=1", 2, 4);
        fault("1.0=1", 1, 1);
        fault("1,0=1", 1, 1);
        fault("1:0=1", 1, 1);
    }

    private static void signs() {
        areTrue("1<2", "2>1", "1=1", "1+1=2", "2-1=1", "2*3=6", "6/3=2", "(1=1)");
        String[] doubles = {"a<=1", "a>=1", "a=<1", "a=>1", "a<>1", "a==1", "a<<1", "a>>1", "a**1=1", "a//1=1", "a++1=1", "a*/1=1", "a-+1=1"};
        for (String text : doubles) {
            fault(text, 2, 2);
        }
        areTrue("1--1=2", "1---1=0", "1+-1=0", "2*--2=4", "4/-2=-2", "1=--1");
    }

    // ---- which token can come where

    private static void orders() {
        edge(6, "2 it can't come there: each token at each stand", TextEdges::eachTokenAtEachStand);
        edge(6, "the text's end: how many bytes it has", TextEdges::endAtEachStand);
        edge(6, "the least: what is no token is 1 at each stand", TextEdges::noTokenAtEachStand);
        edge(6, "3 the 61st token: at each stand", TextEdges::sixtyFirstAtEachStand);
        edge(6, "3 a ( or not within 12 others that are open: at each stand", TextEdges::deepAtEachStand);
        edge(6, "{ } any times", TextEdges::anyTimes);
        edge(6, "there are no brackets round SUMS", TextEdges::noBracketsRoundSums);
    }

    /** Of FIELDS and NUMBERS a and 1 speak for all. */
    private static boolean can(String[] stand, String token) {
        String kind = "abcd".contains(token) ? "a" : Character.isDigit(token.charAt(0)) ? "1" : token;
        return (" " + stand[1] + " ").contains(" " + kind + " ");
    }

    /** A token that can come is no fault; at most the text ends too early then. */
    private static void taken(String text) {
        Calls x = Calls.with(1, 5);
        int answer = x.rule(0, text);
        int place = x.place();
        due("rule of [" + text + "] takes the last token", answer >= 0 && place == NONE || answer == FAULT_2 && place == text.length() ? 1 : 0, 1);
    }

    private static void eachTokenAtEachStand() {
        for (String[] stand : STANDS) {
            for (String token : TOKENS) {
                String text = stand[0] + " " + token;
                if (can(stand, token)) {
                    taken(text);
                } else {
                    fault(text, 2, stand[0].length() + 1);
                }
            }
        }
    }

    private static void endAtEachStand() {
        for (String[] stand : STANDS) {
            for (int blanks = 0; blanks < 3; blanks++) {
                String text = stand[0] + " ".repeat(blanks);
                if (can(stand, ".")) {
                    right(text);
                } else {
                    fault(text, 2, text.length());
                }
            }
        }
    }

    private static void noTokenAtEachStand() {
        String[] noTokens = {"x", "12345", "?", "nott"};
        for (String[] stand : STANDS) {
            for (String noToken : noTokens) {
                fault(stand[0] + " " + noToken, 1, stand[0].length() + 1);
            }
        }
    }

    private static int countTokens(String text) {
        return text.isEmpty() ? 0 : text.split(" ").length;
    }

    /** The stand behind 60 tokens in all: what is put ahead leaves it as it is. */
    private static String withSixty(String stand) {
        int due = 60 - countTokens(stand);
        return (due % 2 == 0 ? "true and ".repeat(due / 2) : "not true and " + "true and ".repeat((due - 3) / 2)) + stand;
    }

    private static void sixtyFirstAtEachStand() {
        for (String[] stand : STANDS) {
            String sixty = withSixty(stand[0]);
            due("tokens of the test's own text", countTokens(sixty), 60);
            for (String token : TOKENS) {
                fault(sixty + " " + token, can(stand, token) ? 3 : 2, sixty.length() + 1);
            }
            fault(sixty + " x", 1, sixty.length() + 1);
            fault(sixty + " 12345", 1, sixty.length() + 1);
            if (can(stand, ".")) {
                right(sixty + " ");
            } else {
                fault(sixty + " ", 2, sixty.length() + 1);
            }
        }
    }

    /** Brackets go round the stand so that it is as deep as can be, and behind it up to twelve that are open. */
    private static void deepAtEachStand() {
        String[] openers = {"(", "not"};
        for (String[] stand : STANDS) {
            int open = Integer.parseInt(stand[2]);
            int most = Integer.parseInt(stand[3]);
            String deepest = "( ".repeat(12 - most) + stand[0];
            for (String opener : openers) {
                String twelve = deepest + (" " + opener).repeat(most - open);
                if (!can(stand, opener)) {
                    fault(deepest + " " + opener, 2, deepest.length() + 1);
                    continue;
                }
                fault(twelve + " " + opener, 3, twelve.length() + 1);
                taken(twelve.substring(2) + " " + opener);
            }
        }
    }

    private static void anyTimes() {
        right("true");
        right("true" + " or true".repeat(29));
        right("true" + " and true".repeat(29));
        fault("true" + " or true".repeat(30), 3, 4 + 8 * 29 + 4);
        right("1" + "+1".repeat(28) + "=1");
        right("1=1" + "-1".repeat(28));
        right("1" + "*1".repeat(28) + "=1");
        right("1=1" + "/1".repeat(28));
        right("-".repeat(57) + "1=1");
        right("1=" + "-".repeat(57) + "1");
        right("true or true and true or true and true");
        areTrue("27=-1" + "+1".repeat(28), "-1" + "+1".repeat(28) + "=27");
        areFalse("28=-1" + "+1".repeat(28), "-1" + "+1".repeat(28) + "=28");
        areTrue("1" + "+1".repeat(27) + "=28", "1" + "*1".repeat(27) + "=1", "-".repeat(56) + "1=1", "-".repeat(55) + "1=-1");
        truth("1=2" + " or 1=2".repeat(13) + " or 1=1", TRUE);
        truth("1=1" + " and 1=1".repeat(13) + " and 1=2", FALSE);
    }

    private static void noBracketsRoundSums() {
        fault("(a)<1", 2, 2);
        fault("(1+2)*3=9", 2, 4);
        fault("a<(1)", 2, 2);
        fault("a+(1)<2", 2, 2);
        fault("-(1)<2", 2, 1);
        right("(a<1)");
        fault("(a<1)<1", 2, 5);
        fault("(a<1)+1", 2, 5);
    }

    // ---- faults

    private static void faults() {
        edge(7, "the first one from the left", TextEdges::firstFromLeft);
        edge(7, "at a token's first byte", TextEdges::firstByte);
        edge(7, "of one token the least", TextEdges::leastOfOneToken);
        edge(6, "3 the 61st token", TextEdges::sixtyFirst);
        edge(6, "3 a ( within 12 others that are open (a ( up to its ))", TextEdges::deepBrackets);
        edge(6, "3 a not within 12 others that are open (a not up to the end of its ONE)", TextEdges::deepNots);
    }

    private static void firstFromLeft() {
        fault("? true true", 1, 0);
        fault("true true ?", 2, 5);
        fault("a < 1 2 12345", 2, 6);
        fault("12345 < 1 2", 1, 0);
        fault("(".repeat(13) + "?", 3, 12);
        fault("(".repeat(12) + "?(", 1, 12);
        fault("(".repeat(12) + "<(", 2, 12);
        fault(SIXTY + "+?", 3, 60);
        fault(")" + SIXTY + "+b", 2, 0);
        fault("x" + SIXTY + "+b", 1, 0);
        fault("not ".repeat(13) + "x", 3, 48);
        fault("a b c", 2, 2);
        fault("x y z", 1, 0);
    }

    private static void firstByte() {
        fault("   falsee", 1, 3);
        fault("a < 1 and   nottrue", 1, 12);
        fault("a <    12345", 1, 7);
        fault("a <    1  9999", 2, 10);
        fault("true   false", 2, 7);
        fault("(  true", 2, 7);
        fault("true  and", 2, 9);
        fault("true  and ", 2, 10);
        fault("", 2, 0);
        fault(" ", 2, 1);
        fault("not ".repeat(12) + "   not true", 3, 51);
    }

    private static void leastOfOneToken() {
        fault(SIXTY + " x", 1, 61);
        fault(SIXTY + " 12345", 1, 61);
        fault(SIXTY + "?", 1, 60);
        fault(SIXTY + " c", 2, 61);
        fault(SIXTY + ")", 2, 60);
        fault(SIXTY + "(", 2, 60);
        fault(SIXTY + " and", 3, 61);
        fault("a x", 1, 2);
        fault("(".repeat(12) + "nott", 1, 12);
        fault("(".repeat(12) + "a(", 2, 13);
        fault("(".repeat(12) + "true not", 2, 17);
        fault("(".repeat(12) + "true(", 2, 16);
        // the 61st token that is a ( within 12 others, too, is a 3 once
        String sixty = "true and ".repeat(24) + "(".repeat(12);
        fault(sixty + "(", 3, sixty.length());
        fault(sixty + "not", 3, sixty.length());
        fault(sixty + "nott", 1, sixty.length());
        fault(sixty + "or", 2, sixty.length());
    }

    private static void sixtyFirst() {
        right(SIXTY);
        right(SIXTY + "   ");
        fault(SIXTY + "+b", 3, 60);
        fault(SIXTY + "   +b", 3, 63);
        fault(SIXTY + " or true", 3, 61);
        right("a<" + "b+".repeat(28) + "b");
        fault("a<" + "b+".repeat(29), 2, 60);
        fault("a<" + "b+".repeat(29) + "b", 3, 60);
        fault("a<" + "b+".repeat(29) + "   ", 2, 63);
        right("true and ".repeat(25) + "not(a<1 or a>2)");
        fault("true and ".repeat(25) + "not(a<-1 or a>2)", 3, 240);
        right("(true)and ".repeat(14) + "not 1=1");
        fault("(true)and ".repeat(14) + "(1=1)", 3, 144);
        fault("(true)and ".repeat(15) + "true", 3, 150);
    }

    private static void deepBrackets() {
        right("(".repeat(12) + "true" + ")".repeat(12));
        fault("(".repeat(13) + "true" + ")".repeat(13), 3, 12);
        right("(".repeat(12) + "true" + ")".repeat(12) + "and" + "(".repeat(12) + "true" + ")".repeat(12));
        fault("(".repeat(12) + "true" + ")".repeat(12) + "and" + "(".repeat(13), 3, 43);
        right("(".repeat(11) + "(true)and(true)" + ")".repeat(11));
        fault("(".repeat(11) + "(true)and((", 3, 21);
        fault("(".repeat(12) + "true and (", 3, 21);
        right("(".repeat(12) + "true) and (true" + ")".repeat(12));
        fault("(".repeat(12) + "true) and ((", 3, 23);
        fault("(".repeat(12) + "true" + ")".repeat(13), 2, 28);
        fault("(".repeat(12) + "true" + ")".repeat(11), 2, 27);
        right("(true)and".repeat(10) + "(true)");
        fault("(".repeat(12) + "not true", 3, 12);
    }

    private static void deepNots() {
        right("not ".repeat(12) + "true");
        fault("not ".repeat(13) + "true", 3, 48);
        right("not ".repeat(12) + "true and " + "not ".repeat(12) + "true");
        right("not ".repeat(12) + "a<1 or " + "not ".repeat(12) + "a<1");
        right("not ".repeat(11) + "(true)and " + "not ".repeat(11) + "(true)");
        fault("not ".repeat(12) + "true and " + "not ".repeat(13) + "true", 3, 105);
        fault("not ".repeat(12) + "(true)", 3, 48);
        right("not ".repeat(11) + "(true)");
        right("not(".repeat(6) + "true" + ")".repeat(6));
        fault("not(".repeat(6) + "not true" + ")".repeat(6), 3, 24);
        fault("not(".repeat(6) + "(true)" + ")".repeat(6), 3, 24);
        fault("not(".repeat(6) + "true and not true" + ")".repeat(6), 3, 33);
        right("not(".repeat(5) + "not true and not true or not(true)" + ")".repeat(5) + "and not(not(true))");
        right("(not true and not true)and " + "not ".repeat(12) + "true");
        right("not(not true)and " + "not ".repeat(12) + "true");
        right("(".repeat(11) + "not true and not true" + ")".repeat(11));
        fault("(".repeat(11) + "not not true" + ")".repeat(11), 3, 15);
        fault("(" + "not ".repeat(11) + "true or " + "not ".repeat(12) + "true)", 3, 97);
    }

    // ---- sums

    private static void sums() {
        edge(6, "64 bits that wrap", TextEdges::wraps);
        edge(6, "from the left, * and / ahead of + and -", TextEdges::fromTheLeft);
        edge(6, "/ goes towards 0", TextEdges::towardsZero);
        edge(6, "a / by 0 makes the SUM an ERROR, and what is compared with it", TextEdges::byZero);
        edge(6, "SUM < SUM, SUM = SUM, SUM > SUM", TextEdges::comparisons);
    }

    private static void wraps() {
        areTrue(LEAST + "<0", LEAST + "-1>0", LEAST + "-1+1<0", LEAST + "-1+1=" + LEAST, LEAST + "*2=0", LEAST + "*-1=" + LEAST, LEAST + "+" + LEAST + "=0",
                "0-" + LEAST + "=" + LEAST, LEAST + "/-1=" + LEAST, LEAST + "/-1<0", "-" + LEAST + "=" + LEAST, LEAST + "<" + LEAST + "-1",
                LEAST + "-1>" + LEAST, "4096*4096*4096*4096*4096*16=0", LEAST + "/1=" + LEAST, LEAST + "*3=" + LEAST,
                "-1-" + LEAST + "=" + LEAST + "-1");
        // what 32 bits would wrap
        areTrue("4096*4096*128>0", "4096*4096*256>0", "9999*9999*9999/9999/9999=9999", "4096*4096*4096*4096*4096*4>0",
                "4096*4096*4096*4096*4096*4-1+4096*4096*4096*4096*4096*4>0");
        truth("4096*4096*256=0", FALSE);
    }

    private static void fromTheLeft() {
        areTrue("10-3-2=5", "10-3+2=9", "1-2+3=2", "100/10/5=2", "7/2*2=6", "2*7/2=7", "3/4*2=0", "2*3/4=1", "2+3*4=14", "2*3+4*5=26", "20-6/2=17",
                "1+8/4/2*3-1=3", "5=1+2*2", "5=7-4/2", "-2+3=1", "-2*3=-6", "2*-3=-6", "2-3*-4=14", "--2-1=1", "10-2*3-1=3", "2*3-10/5*2=2");
    }

    private static void towardsZero() {
        areTrue("7/2=3", "-7/2=-3", "7/-2=-3", "-7/-2=3", "1/2=0", "-1/2=0", "1/-2=0", "-1/-2=0", "999/1000=0", "-999/1000=0", "c/c=1", "d/c=-1", "d/7=-142",
                "c/-7=-142", "d/-7=142", "0/5=0", "0/-5=0", "a/1=7", "a/-1=-7", "7/8=0", "-8/7=-1");
    }

    private static void byZero() {
        areErrors("1/0=1", "0/0=0", "a/b=1", "b/b=0", "1/-0=1", "1/--0=1", "1/0000=1", "1=1/0", "1/0<2", "1/0>2", "2<1/0", "2>1/0", "1/0=1/0", "1/0*0=0",
                "0*1/0=0", "1+1/0=1", "1/0+1=1", "1-1/0=1", "1/0-1/0=0", "-1/0=1", "1/0/0=1", "1/0/1=1", "0/0*0+1=1", "1=2+3*4/b", LEAST + "/0=0", "b=b/b",
                "1/0+2*3-4=0", "1/1/0=1");
        truth("1/a=1 or b=1", ERROR, 0, 2);
        areTrue("0/1=0", "b/a=0", "b*1/1=0");
    }

    private static void comparisons() {
        areFalse("1=1+1", "2<1+1", "2>1+1", "5=1+1", "1=2-2", "3<4-2", "3>4-1", "1=1*2", "2<1*2", "2>1*2", "2=2/2", "1+1=1", "1+1<2", "1+1>2", "4-1=1");
        areTrue("2=1+1", "1<1+1", "3>1+1", "0=2-2", "1<4-2", "4>4-1", "2=1*2", "1<1*2", "3>1*2", "1=2/2", "1+1=2", "1+1<3", "1+1>1", "4-1=3");
        truth("a<b", TRUE, -1000, 1000);
        truth("a<b", FALSE, 1000, -1000);
        truth("a<b", FALSE, 5, 5);
        truth("a<b", TRUE, 4, 5);
        truth("a<b", FALSE, 6, 5);
        truth("a=b", TRUE, 5, 5);
        truth("a=b", FALSE, 4, 5);
        truth("a=b", FALSE, 6, 5);
        truth("a=b", FALSE, -5, 5);
        truth("a>b", FALSE, 5, 5);
        truth("a>b", TRUE, 6, 5);
        truth("a>b", FALSE, 4, 5);
    }

    // ---- truths

    private static void truths() {
        edge(6, "not: TRUE and FALSE change places", TextEdges::nots);
        edge(6, "or: TRUE if one is, else an ERROR if one is, else FALSE", TextEdges::ors);
        edge(6, "and: FALSE if one is, else an ERROR if one is, else TRUE", TextEdges::ands);
        edge(6, "all parts are looked at", TextEdges::allParts);
        edge(6, "ANY: ALL { or ALL }, ALL: ONE { and ONE }", TextEdges::andAheadOfOr);
        edge(9, "TRUE, FALSE, or an ERROR, each for its object", TextEdges::eachForItsObject);
    }

    private static void nots() {
        truth("not true", FALSE);
        truth("not false", TRUE);
        truth("true", TRUE);
        truth("false", FALSE);
        truth("not 1/0=1", ERROR);
        truth("not not 1/0=1", ERROR);
        areTrue("not 5=6", "not 3>5", "not 5<3", "not 2+2=5", "not 5=2+2", "not 3>2*2", "not 3*2<2");
        areFalse("not 5=5", "not 3<5", "not 5>3", "not 2+2=4", "not 4=2+2", "not 3<2*2", "not 3*2>2");
        truth("not not true", TRUE);
        truth("not not not true", FALSE);
        truth("not(1/0=1)", ERROR);
        truth("not 1=1 or 1=1", TRUE);
        truth("not(1=1 or 1=1)", FALSE);
        truth("not 1=2 and 1=2", FALSE);
        truth("not(1=2 and 1=2)", TRUE);
        truth("not ".repeat(12) + "1=1", TRUE);
        truth("not ".repeat(11) + "1=1", FALSE);
        truth("not ".repeat(11) + "1/0=1", ERROR);
    }

    private static int either(int... parts) {
        int truth = FALSE;
        for (int part : parts) {
            truth = truth == TRUE || part == TRUE ? TRUE : truth == ERROR || part == ERROR ? ERROR : FALSE;
        }
        return truth;
    }

    private static int both(int... parts) {
        int truth = TRUE;
        for (int part : parts) {
            truth = truth == FALSE || part == FALSE ? FALSE : truth == ERROR || part == ERROR ? ERROR : TRUE;
        }
        return truth;
    }

    private static void ors() {
        truth("true or false", TRUE);
        truth("false or true", TRUE);
        truth("false or false", FALSE);
        truth("true or 1/0=1", TRUE);
        truth("1/0=1 or true", TRUE);
        truth("false or 1/0=1", ERROR);
        truth("1/0=1 or false", ERROR);
        truth("1/0=1 or 1/0=1", ERROR);
        for (int i = 0; i < 27; i++) {
            truth(TRUTHS[i / 9] + " or " + TRUTHS[i / 3 % 3] + " or " + TRUTHS[i % 3], either(i / 9, i / 3 % 3, i % 3));
        }
    }

    private static void ands() {
        truth("true and false", FALSE);
        truth("false and true", FALSE);
        truth("true and true", TRUE);
        truth("false and 1/0=1", FALSE);
        truth("1/0=1 and false", FALSE);
        truth("true and 1/0=1", ERROR);
        truth("1/0=1 and true", ERROR);
        truth("1/0=1 and 1/0=1", ERROR);
        for (int i = 0; i < 27; i++) {
            truth(TRUTHS[i / 9] + " and " + TRUTHS[i / 3 % 3] + " and " + TRUTHS[i % 3], both(i / 9, i / 3 % 3, i % 3));
        }
    }

    /** The part that decides stands last, and an ERROR does so where none decides. */
    private static void allParts() {
        truth("1=2" + " or 1=2".repeat(12) + " or 1/0=1", ERROR);
        truth("1/0=1" + " or 1=2".repeat(12) + " or 1=1", TRUE);
        truth("1=1" + " and 1=1".repeat(12) + " and 1/0=1", ERROR);
        truth("1/0=1" + " and 1=1".repeat(12) + " and 1=2", FALSE);
        truth("1=1 or 1/0=1 and 1/0=1", TRUE);
        truth("1=2 and 1/0=1 or 1/0=1", ERROR);
        truth("(1=2 or 1/0=1)and 1=2", FALSE);
        truth("1=1 or(not 1/0=1)", TRUE);
        truth("a/b=1 or b=0", TRUE, 7, 0);
        truth("b=0 or a/b=1", TRUE, 7, 0);
        truth("not b=0 and a/b=1", FALSE, 7, 0);
        truth("b=0 and a/b=1", ERROR, 7, 0);
    }

    private static void andAheadOfOr() {
        for (int i = 0; i < 27; i++) {
            int p = i / 9;
            int q = i / 3 % 3;
            int r = i % 3;
            truth(TRUTHS[p] + " or " + TRUTHS[q] + " and " + TRUTHS[r], either(p, both(q, r)));
            truth(TRUTHS[p] + " and " + TRUTHS[q] + " or " + TRUTHS[r], either(both(p, q), r));
            truth("(" + TRUTHS[p] + " or " + TRUTHS[q] + ")and " + TRUTHS[r], both(either(p, q), r));
            truth(TRUTHS[p] + " and(" + TRUTHS[q] + " or " + TRUTHS[r] + ")", both(p, either(q, r)));
        }
    }

    private static void eachForItsObject() {
        Calls x = Calls.with(1, 0, 1, 2, 3, 4, 5, 6);
        due("6/a > 2 is TRUE for 1 and 2", x.rule(0, "6/a>2"), 2);
        due("seen", x.seen(0, 0), 2);
        due("not seen", x.seen(0, 1), 5);
        due("by an error", x.seen(0, 2), 1);
        due("ERROR for all", x.rule(0, "1/0=a"), 0);
        due("by an error", x.seen(0, 2), 7);
        due("not seen", x.seen(0, 1), 7);
    }

    // ---- what takes texts

    private static void takers() {
        edge(6, "how many objects are SEEN", TextEdges::ruleCounts);
        edge(6, "-10 less the FAULT: the RULE stays", TextEdges::ruleStays);
        edge(6, "NONE (the tape stays)", TextEdges::ruleOfNobody);
        edge(6, "a RULE is no QUERY: CLOSED FIELDS, a full AUDIT and what was TOLD do not matter", TextEdges::ruleAtAnyTime);
        edge(6, "a RULE of one user is of that user alone", TextEdges::ruleOfOneUser);
        edge(6, "the tape becomes a RULE: nothing of texts before it", TextEdges::eachTextByItself);
    }

    private static void ruleCounts() {
        Calls x = new Calls();
        x.user();
        due("of no objects", x.rule(0, "true"), 0);
        due("seen", x.seen(0, 0), 0);
        x.objects(12);
        due("all that there are", x.seen(0, 0), 12);
        due("true", x.rule(0, "true"), 12);
        due("false", x.rule(0, "false"), 0);
        x.set(11, 3, 1);
        due("the last object's last field", x.rule(0, "d=1"), 1);
        due("all others", x.rule(0, "d=0"), 11);
    }

    private static void ruleStays() {
        String[] faulty = {"?", "", "true true", "false or", "(".repeat(13), SIXTY + "+b"};
        int[] answers = {FAULT_1, FAULT_2, FAULT_2, FAULT_2, FAULT_3, FAULT_3};
        for (int i = 0; i < faulty.length; i++) {
            Calls x = Calls.with(1, 5, 6, 7);
            x.rule(0, "a > 5");
            due("rule of [" + faulty[i] + "]", x.rule(0, faulty[i]), answers[i]);
            due("seen", x.seen(0, 0), 2);
            due("not seen", x.seen(0, 1), 1);
            due("not seen by an error", x.seen(0, 2), 0);
            due("which are seen", x.ask(0, "true"), 2);
            due("found", x.found(0), 1);
        }
        Calls x = Calls.with(0, 5);
        x.user();
        due("a fault", x.rule(0, "true true"), FAULT_2);
        due("a new user's RULE stays false", x.seen(0, 1), 1);
    }

    private static void ruleOfNobody() {
        int[] nobody = {-1, 1, 4, LOW, HIGH};
        for (int user : nobody) {
            Calls x = Calls.with(1, 5);
            x.write("a = 5");
            due("rule(" + user + ")", x.rule(user), NONE);
            due("told(2)", x.told(2), 5);
            due("place()", x.place(), NONE);
            due("the same text is taken then", x.rule(0), 1);
            x.write("?");
            due("NONE ahead of a FAULT", x.rule(user), NONE);
            due("place()", x.place(), NONE);
            due("told(2)", x.told(2), 1);
        }
        Calls x = new Calls();
        x.write("true");
        due("rule(0) without users", x.rule(0), NONE);
        due("told(2)", x.told(2), 4);
    }

    private static void ruleAtAnyTime() {
        Calls x = Calls.with(1, 5, 6);
        x.close(0, 15);
        due("closed FIELDS in a RULE", x.rule(0, "a = 5 or b + c + d = 9"), 1);
        due("told", x.sum(0, 0, 3), 11);
        due("once TOLD", x.rule(0, "a = 6"), 1);
        x.fillAudit(150);
        due("with a full AUDIT", x.rule(0, "a > 0"), 2);
        due("a FAULT with a full AUDIT", x.rule(0, "?"), FAULT_1);
        due("no ask", x.told(3), 150);
    }

    private static void ruleOfOneUser() {
        Calls x = Calls.with(4, 5, 6, 7);
        for (int user = 0; user < 4; user++) {
            due("rule", x.rule(user, "b < " + user), user);
        }
        for (int user = 0; user < 4; user++) {
            due("seen(" + user + ", 0)", x.seen(user, 0), user);
        }
    }

    /** What a fault left open or waiting must not bear on the texts behind it. */
    private static void eachTextByItself() {
        String[] faulty = {"(".repeat(12), "not ".repeat(12), "not(".repeat(6) + "true", "(((a<1+2*", "1+2*-", "((true)", "true or not", "(((", "a <", SIXTY + "+"};
        Calls x = Calls.with(1, 5);
        for (String text : faulty) {
            due("rule of [" + text + "]", x.rule(0, text) < 0 ? 1 : 0, 1);
            due("a text with a ) too many", x.rule(0, "true)"), FAULT_2);
            due("place()", x.place(), 4);
            due("a right one", x.rule(0, "true"), 1);
            due("one that is FALSE", x.rule(0, "a=1+2*3"), 0);
        }
        for (int i = 0; i < 12; i++) {
            x.rule(0, "(".repeat(12));
        }
        due("one that is FALSE", x.rule(0, "a=6"), 0);
        due("12 brackets", x.rule(0, "(".repeat(12) + "a=5" + ")".repeat(12)), 1);
        due("12 nots", x.rule(0, "not ".repeat(12) + "a=5"), 1);
        due("60 tokens", x.rule(0, "a=-24" + "+1".repeat(28)), 0);
        due("60 tokens", x.rule(0, "a=-23" + "+1".repeat(28)), 1);
        due("FIELDS of the text before", x.rule(0, "a=5 and b=0 and c=0 and d=0"), 1);
        x.close(0, 15);
        due("are not this one's", x.ask(0, "true"), 1);
        due("nor are those of a FAULT", x.ask(0, "a=5 ?"), FAULT_1);
        due("a text without FIELDS", x.ask(0, "1=1"), 1);
    }
}
