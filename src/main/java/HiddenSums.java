import java.util.Arrays;

/**
 * Objects with values, users with rights to see them, and sums that are told only as long as
 * no hidden value can be solved from all that was told.
 */
public final class HiddenSums {
    public static final int NONE = -1, BAD = -2, FULL = -4, STATE = -5, BARRED = -6;

    private static final int MAX_OBJECTS = 12;
    private static final int MAX_USERS = 4;
    private static final int FIELDS = 4;
    private static final int MAX_VALUE = 1000;
    private static final int MAX_TAPE = 300;
    private static final int MAX_TOKENS = 60;
    private static final int MAX_NESTED = 12;
    private static final int MAX_FIGURES = 4;
    private static final int MAX_AUDIT = 150;
    private static final int AUDIT_WIDTH = 5;

    /** What a text can be for an object. */
    private static final int FALSE = 0, TRUE = 1, ERROR = 2;

    /** The kinds of tokens; NEGATE is a MINUS ahead of a LEAF, and comes by its place alone. */
    private static final int END = 0, BROKEN = 1, NUMBER = 2, FIELD = 3, WORD_TRUE = 4, WORD_FALSE = 5, BRACKET = 6,
            SHUT = 7, OR = 8, AND = 9, NOT = 10, LESS = 11, EQUAL = 12, MORE = 13, PLUS = 14, MINUS = 15, TIMES = 16,
            OVER = 17, NEGATE = 18;

    /** How tightly each kind of token binds: what is looser waits until what is tighter is done. */
    private static final int[] RANKS = {0, 0, 0, 0, 0, 0, 0, 0, 1, 2, 3, 4, 4, 4, 5, 5, 6, 6, 7};
    private static final int LOOSEST = 1;

    /** What the reader of a text has behind it, or waits for. */
    private static final int NOWHERE = -1, ONE_DUE = 0, LEFT_DUE = 1, LEFT_READ = 2, RIGHT_DUE = 3, RIGHT_READ = 4,
            ONE_READ = 5, WHOLE = 6;

    private static final int FAULT_TOKEN = 1, FAULT_ORDER = 2, FAULT_SIZE = 3;
    private static final int FAULT_BASE = -10;

    private static final int BY_ASK = 0, BY_VALUE = 1, BY_SUM = 2, BY_CELL = 3, BY_CURSOR = 4, BY_STEP = 5;
    private static final int DID_TELL = 0, DID_HIDE = 1, DID_BAR = 2, DID_FAULT = 3;

    private static final int NO_MORE = -3;

    private final int[] values = new int[MAX_OBJECTS * FIELDS];
    private int objectCount;
    private final User[] users = new User[MAX_USERS];
    private int userCount;
    private final int[] tape = new int[MAX_TAPE];
    private int tapeLength;
    private int faultPlace = NONE;
    private final int[] matches = new int[MAX_OBJECTS];
    private int matchCount;
    private boolean anybodyTold;
    private final Audit entries = new Audit();
    private final Reader reader = new Reader();
    private final Reckoner reckoner = new Reckoner();
    private final Reduced trial = new Reduced();

    public HiddenSums() {
        for (int i = 0; i < MAX_USERS; i++) {
            users[i] = new User();
        }
    }

    public int object() {
        if (anybodyTold) {
            return STATE;
        }
        if (objectCount >= MAX_OBJECTS) {
            return FULL;
        }
        for (int field = 0; field < FIELDS; field++) {
            values[objectCount * FIELDS + field] = 0;
        }
        objectCount++;
        return objectCount - 1;
    }

    public int set(int object, int field, int v) {
        if (!isObject(object) || !isField(field)) {
            return NONE;
        }
        if (v < -MAX_VALUE || v > MAX_VALUE) {
            return BAD;
        }
        if (anybodyTold) {
            return STATE;
        }
        values[object * FIELDS + field] = v;
        return 1;
    }

    public int user() {
        if (userCount >= MAX_USERS) {
            return FULL;
        }
        users[userCount].begin();
        userCount++;
        return userCount - 1;
    }

    public int type(long v, int n) {
        if (n < 0 || n > 8) {
            return BAD;
        }
        if (n == 0) {
            tapeLength = 0;
            return 0;
        }
        if (tapeLength + n > MAX_TAPE) {
            return FULL;
        }
        for (int i = n - 1; i >= 0; i--) {
            tape[tapeLength] = (int) (v >>> (8 * i)) & 255;
            tapeLength++;
        }
        return tapeLength;
    }

    public int rule(int user) {
        if (!isUser(user)) {
            return NONE;
        }
        int fault = takeTape();
        if (fault != 0) {
            return FAULT_BASE - fault;
        }
        users[user].rights.copyFrom(reader.text);
        return countByRule(users[user], TRUE);
    }

    public int place() {
        return faultPlace;
    }

    public int close(int user, int mask) {
        if (!isUser(user)) {
            return NONE;
        }
        if (mask < 0 || mask >= 1 << FIELDS) {
            return BAD;
        }
        int before = users[user].closed;
        users[user].closed = mask;
        return before;
    }

    public int seen(int user, int what) {
        if (!isUser(user)) {
            return NONE;
        }
        switch (what) {
            case 0:
                return countByRule(users[user], TRUE);
            case 1:
                return objectCount - countByRule(users[user], TRUE);
            case 2:
                return countByRule(users[user], ERROR);
            default:
                return BAD;
        }
    }

    public int ask(int user) {
        if (!isUser(user)) {
            return NONE;
        }
        if (entries.isFull()) {
            return FULL;
        }
        int refusal = takeQuery(user, BY_ASK);
        if (refusal != 0) {
            return refusal;
        }
        matchCount = 0;
        for (int object = 0; object < objectCount; object++) {
            if (isMatch(users[user], reader.text, object)) {
                matches[matchCount] = object;
                matchCount++;
            }
        }
        return matchCount;
    }

    public int found(int i) {
        if (i < 0 || i >= matchCount) {
            return NONE;
        }
        return matches[i];
    }

    public int value(int user, int object, int field)
            throws IndexOutOfBoundsException, IllegalStateException, IllegalArgumentException {
        if (!isUser(user) || !isObject(object) || !isField(field)) {
            throw new IndexOutOfBoundsException("no such user, object or field");
        }
        if (entries.isFull()) {
            throw new IllegalStateException("the audit is full");
        }
        int bit = 1 << object;
        if ((hiddenFrom(users[user], field) & bit) != 0 || !tell(users[user], field, bit)) {
            entries.enter(user, BY_VALUE, object, field, DID_HIDE);
            throw new IllegalArgumentException("hidden, or kept back");
        }
        entries.enter(user, BY_VALUE, object, field, DID_TELL);
        return values[object * FIELDS + field];
    }

    public int sum(int user, int field, int set)
            throws IndexOutOfBoundsException, IllegalStateException, IllegalArgumentException {
        if (!isUser(user) || !isField(field) || !isSet(set)) {
            throw new IndexOutOfBoundsException("no such user or field, or no set of objects");
        }
        if (entries.isFull()) {
            throw new IllegalStateException("the audit is full");
        }
        if (!tell(users[user], field, set)) {
            entries.enter(user, BY_SUM, field, set, DID_HIDE);
            throw new IllegalArgumentException("kept back");
        }
        entries.enter(user, BY_SUM, field, set, DID_TELL);
        return total(field, set);
    }

    public int cell(int user, int field, int low, int high) {
        if (!isUser(user) || !isField(field)) {
            return NONE;
        }
        if (high < low) {
            return BAD;
        }
        if (entries.isFull()) {
            return FULL;
        }
        if (users[user].hasClosed(1 << field)) {
            entries.enter(user, BY_CELL, field, low, DID_BAR);
            return BARRED;
        }
        entries.enter(user, BY_CELL, field, low, DID_TELL);
        return countBetween(users[user], field, low, high);
    }

    public int cursor(int user) {
        if (!isUser(user)) {
            return NONE;
        }
        if (entries.isFull()) {
            return FULL;
        }
        int refusal = takeQuery(user, BY_CURSOR);
        if (refusal != 0) {
            return refusal;
        }
        users[user].startCursor(reader.text);
        return 1;
    }

    public int step(int user) {
        if (!isUser(user)) {
            return NONE;
        }
        User asker = users[user];
        if (!asker.hasCursor) {
            return STATE;
        }
        if (entries.isFull()) {
            return FULL;
        }
        if (asker.hasClosed(asker.query.fieldMask)) {
            entries.enter(user, BY_STEP, 0, 0, DID_BAR);
            return BARRED;
        }
        entries.enter(user, BY_STEP, 0, 0, DID_TELL);
        return moveCursor(asker);
    }

    public int solved(int user, int field, int object) {
        if (!isUser(user) || !isField(field) || !isObject(object)) {
            return NONE;
        }
        return users[user].known[field].isSolved(object) ? 1 : 0;
    }

    public int would(int user, int field, int object, int set) {
        if (!isUser(user) || !isField(field) || !isObject(object)) {
            return NONE;
        }
        if (!isSet(set)) {
            return BAD;
        }
        tryOut(users[user], field, set);
        return trial.isSolved(object) ? 1 : 0;
    }

    public long world(int user, int field, int object, int k) {
        if (!isUser(user) || !isField(field) || !isObject(object) || !isObject(k)) {
            return NONE;
        }
        Reduced known = users[user].known[field];
        if (known.isSolved(object)) {
            return STATE;
        }
        return known.otherWorld(object, k);
    }

    public int rows(int user, int field) {
        if (!isUser(user) || !isField(field)) {
            return NONE;
        }
        return users[user].known[field].countRows();
    }

    public int audit(int i, int what) {
        if (i < 0 || i >= entries.count) {
            return NONE;
        }
        if (what < 0 || what >= AUDIT_WIDTH) {
            return BAD;
        }
        return entries.cells[i * AUDIT_WIDTH + what];
    }

    public int told(int what) {
        switch (what) {
            case 0:
                return objectCount;
            case 1:
                return userCount;
            case 2:
                return tapeLength;
            case 3:
                return entries.count;
            case 4:
                return anybodyTold ? 1 : 0;
            default:
                return BAD;
        }
    }

    /** Objects and users are emptied when they come, so that counts alone need to go back here. */
    public void clear() {
        objectCount = 0;
        userCount = 0;
        tapeLength = 0;
        faultPlace = NONE;
        matchCount = 0;
        anybodyTold = false;
        entries.count = 0;
    }

    private boolean isObject(int number) {
        return number >= 0 && number < objectCount;
    }

    private boolean isUser(int number) {
        return number >= 0 && number < userCount;
    }

    private static boolean isField(int number) {
        return number >= 0 && number < FIELDS;
    }

    private boolean isSet(int bits) {
        return bits != 0 && bits >>> objectCount == 0;
    }

    /** Reads the tape into the reader's text: its FAULT, or 0. */
    private int takeTape() {
        reader.read(tape, tapeLength);
        tapeLength = 0;
        faultPlace = reader.fault == 0 ? NONE : reader.start;
        return reader.fault;
    }

    /** Takes the tape for an ask by a text, which goes into the AUDIT: its refusal, or 0. */
    private int takeQuery(int asker, int kind) {
        int fault = takeTape();
        if (fault != 0) {
            entries.enter(asker, kind, 0, 0, DID_FAULT);
            return FAULT_BASE - fault;
        }
        if (users[asker].hasClosed(reader.text.fieldMask)) {
            entries.enter(asker, kind, 0, 0, DID_BAR);
            return BARRED;
        }
        entries.enter(asker, kind, 0, 0, DID_TELL);
        return 0;
    }

    private boolean isSeen(User asker, int object) {
        return reckoner.truth(asker.rights, values, object * FIELDS) == TRUE;
    }

    private boolean isMatch(User asker, Text query, int object) {
        return isSeen(asker, object) && reckoner.truth(query, values, object * FIELDS) == TRUE;
    }

    private int countByRule(User asker, int truth) {
        int count = 0;
        for (int object = 0; object < objectCount; object++) {
            if (reckoner.truth(asker.rights, values, object * FIELDS) == truth) {
                count++;
            }
        }
        return count;
    }

    private int countBetween(User asker, int field, int low, int high) {
        int count = 0;
        for (int object = 0; object < objectCount; object++) {
            int v = values[object * FIELDS + field];
            if (v >= low && v <= high && isSeen(asker, object)) {
                count++;
            }
        }
        return count;
    }

    private int moveCursor(User asker) {
        for (int object = asker.position + 1; object < objectCount; object++) {
            if (isMatch(asker, asker.query, object)) {
                asker.position = object;
                return object;
            }
        }
        asker.position = objectCount - 1;
        return NO_MORE;
    }

    /** The set of the objects whose value in a field is HIDDEN. */
    private int hiddenFrom(User asker, int field) {
        boolean closed = asker.hasClosed(1 << field);
        int hidden = 0;
        for (int object = 0; object < objectCount; object++) {
            if (closed || !isSeen(asker, object)) {
                hidden |= 1 << object;
            }
        }
        return hidden;
    }

    private int total(int field, int bits) {
        int total = 0;
        for (int object = 0; object < objectCount; object++) {
            if ((bits >> object & 1) != 0) {
                total += values[object * FIELDS + field];
            }
        }
        return total;
    }

    private void tryOut(User asker, int field, int bits) {
        trial.copyFrom(asker.known[field]);
        trial.learn(bits);
    }

    /** Tells the sum over a set, unless it must be KEPT BACK: whether it was told. */
    private boolean tell(User asker, int field, int bits) {
        tryOut(asker, field, bits);
        Reduced known = asker.known[field];
        int solvedByIt = trial.solvedSet() & ~known.solvedSet();
        if ((solvedByIt & hiddenFrom(asker, field)) != 0) {
            return false;
        }
        known.copyFrom(trial);
        anybodyTold = true;
        return true;
    }

    private static final class User {
        final Text rights = new Text();
        final Text query = new Text();
        final Reduced[] known = new Reduced[FIELDS];
        int closed;
        boolean hasCursor;
        int position;

        User() {
            for (int field = 0; field < FIELDS; field++) {
                known[field] = new Reduced();
            }
        }

        void begin() {
            rights.empty();
            rights.append(WORD_FALSE, 0);
            closed = 0;
            hasCursor = false;
            for (int field = 0; field < FIELDS; field++) {
                known[field].forget();
            }
        }

        boolean hasClosed(int fieldMask) {
            return (closed & fieldMask) != 0;
        }

        void startCursor(Text text) {
            query.copyFrom(text);
            position = -1;
            hasCursor = true;
        }
    }

    private static final class Audit {
        final int[] cells = new int[MAX_AUDIT * AUDIT_WIDTH];
        int count;

        boolean isFull() {
            return count >= MAX_AUDIT;
        }

        void enter(int asker, int kind, int first, int second, int answer) {
            if (isFull()) {
                return;
            }
            int at = count * AUDIT_WIDTH;
            cells[at] = asker;
            cells[at + 1] = kind;
            cells[at + 2] = first;
            cells[at + 3] = second;
            cells[at + 4] = answer;
            count++;
        }
    }

    /** A text that was read: its tokens with each operator behind what it works on. */
    private static final class Text {
        final int[] kinds = new int[MAX_TOKENS];
        final int[] numbers = new int[MAX_TOKENS];
        int length;
        int fieldMask;

        void empty() {
            length = 0;
            fieldMask = 0;
        }

        void append(int kind, int number) {
            if (length >= MAX_TOKENS) {
                return;
            }
            kinds[length] = kind;
            numbers[length] = number;
            length++;
            if (kind == FIELD) {
                fieldMask |= 1 << number;
            }
        }

        void copyFrom(Text other) {
            System.arraycopy(other.kinds, 0, kinds, 0, other.length);
            System.arraycopy(other.numbers, 0, numbers, 0, other.length);
            length = other.length;
            fieldMask = other.fieldMask;
        }
    }

    /**
     * Reads a text from the left. Operators wait on a stack until what they work on is read, so
     * that no bracket costs a call, and the open brackets and nots are those that wait.
     */
    private static final class Reader {
        final Text text = new Text();
        int fault;
        int start;
        private int end;
        private int kind;
        private int number;
        private int state;
        private int nested;
        private int brackets;
        private final int[] waiting = new int[MAX_TOKENS];
        private int waitingCount;

        /** Leaves the text, or a fault that is not 0 with its place in start. */
        void read(int[] bytes, int length) {
            text.empty();
            state = ONE_DUE;
            nested = 0;
            brackets = 0;
            waitingCount = 0;
            end = 0;
            for (int count = 1; count <= MAX_TOKENS + 1; count++) {
                scan(bytes, length);
                int next = kind == BROKEN ? NOWHERE : stateBehind();
                fault = faultOfToken(count, next);
                if (fault != 0 || kind == END) {
                    break;
                }
                take();
                state = next;
            }
            settle(LOOSEST);
        }

        private int faultOfToken(int count, int next) {
            if (kind == BROKEN) {
                return FAULT_TOKEN;
            }
            if (next == NOWHERE) {
                return FAULT_ORDER;
            }
            boolean isDeep = (kind == BRACKET || kind == NOT) && nested >= MAX_NESTED;
            return isDeep || kind != END && count > MAX_TOKENS ? FAULT_SIZE : 0;
        }

        private void scan(int[] bytes, int length) {
            start = end;
            while (start < length && bytes[start] == ' ') {
                start++;
            }
            number = 0;
            end = start + 1;
            if (start >= length) {
                kind = END;
            } else if (isLetter(bytes[start])) {
                scanWord(bytes, length);
            } else if (isFigure(bytes[start])) {
                scanNumber(bytes, length);
            } else {
                kind = kindOfSign(bytes[start]);
            }
        }

        private void scanWord(int[] bytes, int length) {
            while (end < length && isLetter(bytes[end])) {
                end++;
            }
            if (end - start == 1 && bytes[start] < 'a' + FIELDS) {
                kind = FIELD;
                number = bytes[start] - 'a';
            } else if (isSpelled(bytes, "and")) {
                kind = AND;
            } else if (isSpelled(bytes, "or")) {
                kind = OR;
            } else if (isSpelled(bytes, "not")) {
                kind = NOT;
            } else if (isSpelled(bytes, "true")) {
                kind = WORD_TRUE;
            } else if (isSpelled(bytes, "false")) {
                kind = WORD_FALSE;
            } else {
                kind = BROKEN;
            }
        }

        /** Looks at no more bytes than the token has. */
        private boolean isSpelled(int[] bytes, String word) {
            if (end - start != word.length()) {
                return false;
            }
            for (int i = 0; i < word.length(); i++) {
                if (bytes[start + i] != word.charAt(i)) {
                    return false;
                }
            }
            return true;
        }

        private void scanNumber(int[] bytes, int length) {
            number = bytes[start] - '0';
            while (end < length && isFigure(bytes[end])) {
                number = number * 10 + bytes[end] - '0';
                end++;
            }
            kind = end - start <= MAX_FIGURES ? NUMBER : BROKEN;
        }

        private static boolean isLetter(int c) {
            return c >= 'a' && c <= 'z';
        }

        private static boolean isFigure(int c) {
            return c >= '0' && c <= '9';
        }

        private static int kindOfSign(int c) {
            switch (c) {
                case '(':
                    return BRACKET;
                case ')':
                    return SHUT;
                case '+':
                    return PLUS;
                case '-':
                    return MINUS;
                case '*':
                    return TIMES;
                case '/':
                    return OVER;
                case '<':
                    return LESS;
                case '=':
                    return EQUAL;
                case '>':
                    return MORE;
                default:
                    return BROKEN;
            }
        }

        /** The state once the token at hand is taken; NOWHERE, if it can't come here. */
        private int stateBehind() {
            switch (state) {
                case ONE_DUE:
                    if (kind == NOT || kind == BRACKET) {
                        return ONE_DUE;
                    }
                    if (kind == WORD_TRUE || kind == WORD_FALSE) {
                        return ONE_READ;
                    }
                    return behindLeaf(LEFT_DUE, LEFT_READ);
                case LEFT_DUE:
                    return behindLeaf(LEFT_DUE, LEFT_READ);
                case LEFT_READ:
                    if (kind == LESS || kind == EQUAL || kind == MORE) {
                        return RIGHT_DUE;
                    }
                    return goesOnSum() ? LEFT_DUE : NOWHERE;
                case RIGHT_DUE:
                    return behindLeaf(RIGHT_DUE, RIGHT_READ);
                case RIGHT_READ:
                    return goesOnSum() ? RIGHT_DUE : behindOne();
                default:
                    return behindOne();
            }
        }

        private int behindLeaf(int due, int read) {
            if (kind == FIELD || kind == NUMBER) {
                return read;
            }
            return kind == MINUS ? due : NOWHERE;
        }

        private boolean goesOnSum() {
            return kind == PLUS || kind == MINUS || kind == TIMES || kind == OVER;
        }

        private int behindOne() {
            if (kind == AND || kind == OR) {
                return ONE_DUE;
            }
            if (kind == SHUT && brackets > 0) {
                return ONE_READ;
            }
            return kind == END && brackets == 0 ? WHOLE : NOWHERE;
        }

        private void take() {
            switch (kind) {
                case NUMBER:
                case FIELD:
                case WORD_TRUE:
                case WORD_FALSE:
                    text.append(kind, number);
                    break;
                case BRACKET:
                    brackets++;
                    nested++;
                    hold(BRACKET);
                    break;
                case NOT:
                    nested++;
                    hold(NOT);
                    break;
                case SHUT:
                    settle(LOOSEST);
                    dropBracket();
                    break;
                default:
                    takeOperator();
            }
        }

        private void takeOperator() {
            if (kind == MINUS && state != LEFT_READ && state != RIGHT_READ) {
                hold(NEGATE);
                return;
            }
            settle(RANKS[kind]);
            hold(kind);
        }

        private void hold(int operator) {
            if (waitingCount < MAX_TOKENS) {
                waiting[waitingCount] = operator;
                waitingCount++;
            }
        }

        /** Writes down the latest operators that wait and bind as tightly as rank; a bracket stops it. */
        private void settle(int rank) {
            while (waitingCount > 0 && RANKS[waiting[waitingCount - 1]] >= rank) {
                waitingCount--;
                if (waiting[waitingCount] == NOT) {
                    nested--;
                }
                text.append(waiting[waitingCount], 0);
            }
        }

        private void dropBracket() {
            if (waitingCount > 0) {
                waitingCount--;
                brackets--;
                nested--;
            }
        }
    }

    /** Reckons a text for an object, on a stack of numbers and truths that may be errors. */
    private static final class Reckoner {
        private final long[] numbers = new long[MAX_TOKENS];
        private final boolean[] errors = new boolean[MAX_TOKENS];
        private int height;

        /** The object's values are those from first on. */
        int truth(Text text, int[] values, int first) {
            height = 0;
            for (int i = 0; i < text.length; i++) {
                carryOut(text.kinds[i], text.numbers[i], values, first);
            }
            if (height < 1 || errors[0]) {
                return ERROR;
            }
            return numbers[0] != 0 ? TRUE : FALSE;
        }

        private void carryOut(int kind, int number, int[] values, int first) {
            switch (kind) {
                case NUMBER:
                    push(number);
                    break;
                case FIELD:
                    push(values[first + number]);
                    break;
                case WORD_TRUE:
                    push(TRUE);
                    break;
                case WORD_FALSE:
                    push(FALSE);
                    break;
                case NEGATE:
                case NOT:
                    turn(kind);
                    break;
                default:
                    join(kind);
            }
        }

        private void push(long number) {
            if (height < MAX_TOKENS) {
                numbers[height] = number;
                errors[height] = false;
                height++;
            }
        }

        private void turn(int kind) {
            if (height < 1) {
                return;
            }
            long number = numbers[height - 1];
            numbers[height - 1] = kind == NOT ? TRUE - number : -number;
        }

        private void join(int kind) {
            if (height < 2) {
                return;
            }
            height--;
            if (kind == AND || kind == OR) {
                joinTruths(kind == OR ? TRUE : FALSE);
                return;
            }
            long right = numbers[height];
            boolean isError = errors[height - 1] || errors[height] || kind == OVER && right == 0;
            numbers[height - 1] = isError ? 0 : reckon(kind, numbers[height - 1], right);
            errors[height - 1] = isError;
        }

        /** The one truth that decides does so whatever the other part is, an error too. */
        private void joinTruths(int decisive) {
            int at = height - 1;
            boolean isDecided = !errors[at] && numbers[at] == decisive
                    || !errors[height] && numbers[height] == decisive;
            errors[at] = !isDecided && (errors[at] || errors[height]);
            numbers[at] = isDecided ? decisive : TRUE - decisive;
        }

        private static long reckon(int kind, long left, long right) {
            switch (kind) {
                case PLUS:
                    return left + right;
                case MINUS:
                    return left - right;
                case TIMES:
                    return left * right;
                case OVER:
                    return right == 0 ? 0 : left / right;
                case LESS:
                    return left < right ? TRUE : FALSE;
                case EQUAL:
                    return left == right ? TRUE : FALSE;
                default:
                    return left > right ? TRUE : FALSE;
            }
        }
    }

    /**
     * The sets that were told, REDUCED. A row stands at its pivot's number, as whole numbers
     * without a common divisor and with a pivot above 0 (0 there: no such row). Its fractions are
     * these over the pivot; none is above a determinant of 12 rows of 0 and 1, so nothing overflows.
     */
    private static final class Reduced {
        private static final int NEW_ROW = MAX_OBJECTS;

        private final long[] cells = new long[(MAX_OBJECTS + 1) * MAX_OBJECTS];

        void forget() {
            Arrays.fill(cells, 0L);
        }

        void copyFrom(Reduced other) {
            System.arraycopy(other.cells, 0, cells, 0, cells.length);
        }

        int countRows() {
            int count = 0;
            for (int i = 0; i < MAX_OBJECTS; i++) {
                if (isPivot(i)) {
                    count++;
                }
            }
            return count;
        }

        boolean isSolved(int object) {
            return isPivot(object) && firstBehind(object) == NONE;
        }

        int solvedSet() {
            int solved = 0;
            for (int i = 0; i < MAX_OBJECTS; i++) {
                if (isSolved(i)) {
                    solved |= 1 << i;
                }
            }
            return solved;
        }

        void learn(int bits) {
            for (int i = 0; i < MAX_OBJECTS; i++) {
                cells[NEW_ROW * MAX_OBJECTS + i] = bits >> i & 1;
            }
            for (int pivot = 0; pivot < MAX_OBJECTS; pivot++) {
                if (isPivot(pivot)) {
                    clearAt(pivot, NEW_ROW);
                }
            }
            int pivot = firstOf(NEW_ROW, 0);
            if (pivot == NONE) {
                return;
            }
            settleNewRow(pivot);
            for (int row = 0; row < pivot; row++) {
                if (isPivot(row)) {
                    clearAt(pivot, row);
                }
            }
        }

        /** The number of object k in ANOTHER WORLD for an object that is not SOLVED. */
        long otherWorld(int object, int k) {
            int free = isPivot(object) ? firstBehind(object) : object;
            if (free == NONE) {
                return 0;
            }
            long whole = leastThatMakesWhole(free);
            if (k == free) {
                return whole;
            }
            long pivot = at(k, k);
            return pivot == 0 ? 0 : -at(k, free) * whole / pivot;
        }

        private long leastThatMakesWhole(int free) {
            long whole = 1;
            for (int row = 0; row < MAX_OBJECTS; row++) {
                long pivot = at(row, row);
                long common = commonDivisor(pivot, at(row, free));
                if (pivot != 0 && common != 0) {
                    long under = pivot / common;
                    long shared = commonDivisor(whole, under);
                    whole = shared == 0 ? whole : whole / shared * under;
                }
            }
            return whole;
        }

        private long at(int row, int column) {
            return cells[row * MAX_OBJECTS + column];
        }

        private boolean isPivot(int object) {
            return at(object, object) != 0;
        }

        private int firstBehind(int object) {
            return firstOf(object, object + 1);
        }

        private int firstOf(int row, int from) {
            for (int i = from; i < MAX_OBJECTS; i++) {
                if (at(row, i) != 0) {
                    return i;
                }
            }
            return NONE;
        }

        /** Takes the row of a pivot from another row as often as leaves 0 at the pivot there. */
        private void clearAt(int pivot, int row) {
            long times = at(row, pivot);
            long scale = at(pivot, pivot);
            if (times == 0) {
                return;
            }
            for (int i = 0; i < MAX_OBJECTS; i++) {
                cells[row * MAX_OBJECTS + i] = at(row, i) * scale - at(pivot, i) * times;
            }
            divide(row, commonDivisorOf(row));
        }

        private void settleNewRow(int pivot) {
            System.arraycopy(cells, NEW_ROW * MAX_OBJECTS, cells, pivot * MAX_OBJECTS, MAX_OBJECTS);
            long common = commonDivisorOf(pivot);
            divide(pivot, at(pivot, pivot) < 0 ? -common : common);
        }

        private void divide(int row, long divisor) {
            if (divisor == 0) {
                return;
            }
            for (int i = 0; i < MAX_OBJECTS; i++) {
                cells[row * MAX_OBJECTS + i] /= divisor;
            }
        }

        private long commonDivisorOf(int row) {
            long common = 0;
            for (int i = 0; i < MAX_OBJECTS; i++) {
                common = commonDivisor(common, at(row, i));
            }
            return common;
        }

        /** Euclid's way ends within 93 rounds for any two numbers of 64 bits. */
        private static long commonDivisor(long first, long second) {
            long a = first < 0 ? -first : first;
            long b = second < 0 ? -second : second;
            for (int round = 0; round < 100 && b != 0; round++) {
                long rest = a % b;
                a = b;
                b = rest;
            }
            return a;
        }
    }
}
