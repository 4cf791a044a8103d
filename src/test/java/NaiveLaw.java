import java.util.function.IntUnaryOperator;

/** THE LAW read as a tree of functions, one method for each line of the grammar; a second opinion for the tests. */
final class NaiveLaw {
    private static final class Fault extends RuntimeException {
        private static final long serialVersionUID = 1L;
        final int place;

        Fault(int place) {
            super(null, null, false, false);
            this.place = place;
        }
    }

    private final String text;
    private int at;
    private int open;
    // Values of the names in the evaluation that is under way.
    private int a, b, g, p, q;

    private NaiveLaw(String text) {
        this.text = text;
    }

    /** The fault's place, or -1. */
    static int faultOf(String text) {
        try {
            new NaiveLaw(text).text();
            return -1;
        } catch (Fault f) {
            return f.place;
        }
    }

    /** The worth of a text that has no fault: read anew each time, working out as it goes. */
    static int worth(String text, int a, int b, int g, int p, int q) {
        NaiveLaw law = new NaiveLaw(text);
        law.a = a;
        law.b = b;
        law.g = g;
        law.p = p;
        law.q = q;
        return law.text();
    }

    private int peek() {
        return at < text.length() ? text.charAt(at) : -1;
    }

    private int text() {
        boolean found = false;
        int worth = 0;
        while (true) {
            int first = either();
            boolean asked = peek() == '?';
            int value = first;
            if (asked) {
                at++;
                value = either();
            }
            if (!found && (!asked || first != 0)) {
                found = true;
                worth = value;
            }
            if (peek() == -1) {
                return worth;
            }
            if (peek() != ';') {
                throw new Fault(at);
            }
            at++;
        }
    }

    private int either() {
        int x = both();
        while (peek() == '|') {
            at++;
            int y = both();
            x = x != 0 | y != 0 ? 1 : 0;
        }
        return x;
    }

    private int both() {
        int x = compared();
        while (peek() == '&') {
            at++;
            int y = compared();
            x = x != 0 & y != 0 ? 1 : 0;
        }
        return x;
    }

    private int compared() {
        int x = sum();
        int c = peek();
        if (c == '<' || c == '=' || c == '>') {
            at++;
            int y = sum();
            return (c == '<' ? x < y : c == '=' ? x == y : x > y) ? 1 : 0;
        }
        return x;
    }

    private int sum() {
        int x = product();
        while (peek() == '+' || peek() == '-') {
            boolean plus = peek() == '+';
            at++;
            int y = product();
            x = plus ? x + y : x - y;
        }
        return x;
    }

    private int product() {
        int x = operand();
        while (peek() == '*' || peek() == '/' || peek() == '%') {
            int c = peek();
            at++;
            int y = operand();
            if (c == '*') {
                x = x * y;
            } else if (y == 0) {
                x = 0;
            } else {
                x = c == '/' ? x / y : x % y;
            }
        }
        return x;
    }

    private int operand() {
        int c = peek();
        if (c >= '0' && c <= '9') {
            int start = at;
            while (at < text.length() && at - start < 4 && Character.digit(text.charAt(at), 10) >= 0 && text.charAt(at) < 128) {
                at++;
            }
            return Integer.parseInt(text.substring(start, at));
        }
        switch (c) {
            case 'a': at++; return a;
            case 'b': at++; return b;
            case 'g': at++; return g;
            case 'p': at++; return p;
            case 'q': at++; return q;
            case '!': return opened(x -> x == 0 ? 1 : 0, false);
            case '-': return opened(x -> -x, false);
            case '(': return opened(x -> x, true);
            default: throw new Fault(at);
        }
    }

    private int opened(IntUnaryOperator work, boolean isParen) {
        if (open == 6) {
            throw new Fault(at);
        }
        open++;
        at++;
        int x = isParen ? either() : operand();
        if (isParen) {
            if (peek() != ')') {
                throw new Fault(at);
            }
            at++;
        }
        open--;
        return work.applyAsInt(x);
    }
}
