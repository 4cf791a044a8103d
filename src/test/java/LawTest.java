import java.util.Random;

/** Random TEXTS, right ones and spoilt ones: FAULT and what counts, as NaiveLaw has it (LawEdgesTest has those told by hand). */
public final class LawTest {
    private static final String BYTES = "abgpq0123456789+-*/%<=>!&|()?;~ A";
    private static final int[] HEIGHTS = {40, 20, 30, 50, 10, 99};

    private static int wrong;

    private final Random random;

    private LawTest(long seed) {
        random = new Random(seed);
    }

    public static void main(String[] args) {
        int texts = args.length > 0 ? Integer.parseInt(args[0]) : 40000;
        int right = 0;
        for (int k = 0; k < texts && wrong < 5; k++) {
            LawTest test = new LawTest(k);
            String text = test.text();
            for (int spoil = test.random.nextInt(4) - 1; spoil > 0; spoil--) {
                text = test.spoilt(text);
            }
            if (text.length() > 120) {
                text = text.substring(0, 120);
            }
            right += check(text) ? 1 : 0;
        }
        due("both right and wrong texts came", right > texts / 4 && right < texts * 3 / 4 ? 1 : 0, 1);
        System.out.println(wrong == 0 ? texts + " texts are read alike" : wrong + " texts are not read alike");
        if (wrong != 0) {
            System.exit(1);
        }
    }

    private static void due(String what, long got, long want) {
        if (got != want) {
            wrong++;
            System.out.println(what + " answered " + got + ", due is " + want);
        }
    }

    private static int tell(TallerAhead x, String text) {
        for (int k = 0; k < text.length(); k++) {
            due("feed of " + text, x.feed(text.charAt(k)), k + 1);
        }
        return x.law();
    }

    private static boolean check(String text) {
        TallerAhead x = new TallerAhead();
        for (int height : HEIGHTS) {
            x.person(height);
        }
        int fault = NaiveLaw.faultOf(text);
        due("law " + text, tell(x, text), fault < 0 ? 1 : -100 - fault);
        due("tape behind " + text, x.count(3), 0);
        for (int q = 0; q < HEIGHTS.length; q++) {
            int number = 0;
            for (int p = 0; p < q; p++) {
                boolean counts = fault < 0 ? NaiveLaw.worth(text, HEIGHTS[p], HEIGHTS[q], q - p, p, q) != 0 : HEIGHTS[p] > HEIGHTS[q];
                number += counts ? 1 : 0;
            }
            due("number of " + q + " by " + text, x.of(q, 2), number);
        }
        return fault < 0;
    }

    // ---- texts by the grammar

    private int below(int n) {
        return random.nextInt(n);
    }

    private String text() {
        StringBuilder text = new StringBuilder();
        for (int lines = 1 + below(3); lines > 0; lines--) {
            text.append(expression(2));
            if (below(2) == 0) {
                text.append('?').append(expression(2));
            }
            text.append(lines > 1 ? ";" : "");
        }
        return text.toString();
    }

    private String expression(int depth) {
        StringBuilder text = new StringBuilder();
        int parts = 1 + below(3);
        for (int k = 0; k < parts; k++) {
            if (k > 0) {
                text.append("|&+-*/%&|".charAt(below(9)));
            }
            text.append(operand(depth));
            if (below(5) == 0 && (k + 1 == parts)) {
                text.append("<=>".charAt(below(3))).append(operand(depth));
            }
        }
        return text.toString();
    }

    private String operand(int depth) {
        switch (depth <= 0 ? below(5) : below(9)) {
            case 0:
                return String.valueOf(below(below(2) == 0 ? 10 : 10000));
            case 1: case 2: case 3: case 4:
                return String.valueOf("abgpq".charAt(below(5)));
            case 5:
                return "!" + operand(depth - 1);
            case 6:
                return "-" + operand(depth - 1);
            default:
                return "(" + expression(depth - 1) + ")";
        }
    }

    private String spoilt(String text) {
        StringBuilder spoilt = new StringBuilder(text);
        int at = below(text.length() + 1);
        char other = BYTES.charAt(below(BYTES.length()));
        switch (below(4)) {
            case 0:
                spoilt.insert(at, other);
                break;
            case 1:
                spoilt.setLength(at);
                break;
            case 2:
                if (at < text.length()) {
                    spoilt.setCharAt(at, other);
                }
                break;
            default:
                if (at < text.length()) {
                    spoilt.deleteCharAt(at);
                }
                break;
        }
        return spoilt.toString();
    }
}
