import java.util.ArrayList;
import java.util.List;
import java.util.regex.Matcher;
import java.util.regex.Pattern;

/** Reads a text by recursive descent, as the document's grammar is written. */
final class Grammar {
    /** A text as the document's grammar has it; truth is 1, 0, or null for an ERROR. */
    interface Part {
        Integer truth(int[] object);
    }

    interface Amount {
        Long reckon(int[] object);
    }

    static final class Fault extends RuntimeException {
        private static final long serialVersionUID = 1L;
        final int number;
        final int place;

        Fault(int number, int place) {
            super(null, null, false, false);
            this.number = number;
            this.place = place;
        }
    }

    private static final Pattern TOKEN = Pattern.compile("[a-z]+|[0-9]+|[()+*/<=>-]");
    private final String text;
    private int at = 0;
    private int taken = 0;
    private int open = 0;
    private String token;
    private int start;
    int fields = 0;

    Grammar(String text) {
        this.text = text;
        look();
    }

    Part whole() {
        Part part = any();
        if (!token.isEmpty()) {
            throw new Fault(2, start);
        }
        return part;
    }

    private void look() {
        while (at < text.length() && text.charAt(at) == ' ') {
            at++;
        }
        start = at;
        if (at == text.length()) {
            token = "";
            return;
        }
        Matcher m = TOKEN.matcher(text);
        if (!m.find(at) || m.start() != at) {
            throw new Fault(1, start);
        }
        token = m.group();
        at = m.end();
        boolean number = Character.isDigit(token.charAt(0));
        boolean letters = Character.isLetter(token.charAt(0));
        if (number && token.length() > 4 || letters && !token.matches("and|or|not|true|false|[abcd]")) {
            throw new Fault(1, start);
        }
    }

    private void take() {
        taken++;
        if (taken > 60) {
            throw new Fault(3, start);
        }
        if (token.equals("(") || token.equals("not")) {
            if (open == 12) {
                throw new Fault(3, start);
            }
            open++;
        }
        look();
    }

    private Part any() {
        List<Part> parts = new ArrayList<>();
        parts.add(all());
        while (token.equals("or")) {
            take();
            parts.add(all());
        }
        return object -> decide(parts, object, 1);
    }

    private Part all() {
        List<Part> parts = new ArrayList<>();
        parts.add(one());
        while (token.equals("and")) {
            take();
            parts.add(one());
        }
        return object -> decide(parts, object, 0);
    }

    private static Integer decide(List<Part> parts, int[] object, int decisive) {
        boolean error = false;
        for (Part part : parts) {
            Integer truth = part.truth(object);
            if (truth == null) {
                error = true;
            } else if (truth == decisive) {
                return decisive;
            }
        }
        return error ? null : Integer.valueOf(1 - decisive);
    }

    private Part one() {
        if (token.equals("true") || token.equals("false")) {
            int truth = token.equals("true") ? 1 : 0;
            take();
            return object -> truth;
        }
        if (token.equals("not")) {
            take();
            Part inner = one();
            open--;
            return object -> inner.truth(object) == null ? null : Integer.valueOf(1 - inner.truth(object));
        }
        if (token.equals("(")) {
            take();
            Part inner = any();
            if (!token.equals(")")) {
                throw new Fault(2, start);
            }
            open--;
            take();
            return inner;
        }
        Amount left = sum();
        String sign = token;
        if (!sign.equals("<") && !sign.equals("=") && !sign.equals(">")) {
            throw new Fault(2, start);
        }
        take();
        Amount right = sum();
        return object -> compare(sign, left.reckon(object), right.reckon(object));
    }

    private static Integer compare(String sign, Long left, Long right) {
        if (left == null || right == null) {
            return null;
        }
        int order = left.compareTo(right);
        return (sign.equals("<") ? order < 0 : sign.equals("=") ? order == 0 : order > 0) ? 1 : 0;
    }

    private Amount sum() {
        Amount left = times();
        while (token.equals("+") || token.equals("-")) {
            boolean plus = token.equals("+");
            take();
            Amount before = left;
            Amount right = times();
            left = object -> {
                Long x = before.reckon(object);
                Long y = right.reckon(object);
                return x == null || y == null ? null : Long.valueOf(plus ? x + y : x - y);
            };
        }
        return left;
    }

    private Amount times() {
        Amount left = leaf();
        while (token.equals("*") || token.equals("/")) {
            boolean times = token.equals("*");
            take();
            Amount before = left;
            Amount right = leaf();
            left = object -> {
                Long x = before.reckon(object);
                Long y = right.reckon(object);
                return x == null || y == null || !times && y == 0 ? null : Long.valueOf(times ? x * y : x / y);
            };
        }
        return left;
    }

    private Amount leaf() {
        if (token.equals("-")) {
            take();
            Amount inner = leaf();
            return object -> -inner.reckon(object);
        }
        if (token.matches("[abcd]")) {
            int field = token.charAt(0) - 'a';
            fields |= 1 << field;
            take();
            return object -> (long) object[field];
        }
        if (token.matches("[0-9]+")) {
            long number = Long.parseLong(token);
            take();
            return object -> number;
        }
        throw new Fault(2, start);
    }
}
