import java.lang.reflect.Method;
import java.util.ArrayList;
import java.util.Arrays;
import java.util.Comparator;
import java.util.List;
import java.util.Random;

/** Random runs of calls, each answered by TallerAhead and by NaiveQueue alike. */
public final class ModelTest {
    private static final String[] LAWS = {
        "a>b", "a<b", "g=1", "a>b+g*3&!(p=q+1);(a+b)%7=g", "a>b|g=3&(p+q)%2", "p<q?a>b;a<b", "g>2?0;p=3?1;a%5>b%5",
        "1", "0", "a/(b-20)>2", "a%(p-q)=1", "b>110?0;1", "-a+b*2-g/p", "!a|!!b&---g", "9999*9999*9999*a>b",
        "((((((a))))))>b", "!-!-!-a=0", "p>q?g<3?1", "a>b;", "", "a>b>g", "a??b", "00000", "!!!!!!!a", "(a>b", "a)b", "a+*b",
        "a?b:g", "a>b;g;p", "0?1", "0?1;0?1", "q?a>b", "a*a*a*a*a*a*a>b*b*b*b*b", "g%2?a>b;a<b|p=0", "b<60", "(a=b)+(g=1)-1",
    };
    private static final String BYTES = "abgpq0123456789+-*/%<=>!&|()?;()()x ~[";

    private final Random random;
    private final TallerAhead real = new TallerAhead();
    private final NaiveQueue naive = new NaiveQueue();
    private final List<String> said = new ArrayList<>();
    private int calls;
    private boolean failed;

    private ModelTest(long seed) {
        random = new Random(seed);
    }

    public static void main(String[] args) throws Exception {
        int runs = args.length > 0 ? Integer.parseInt(args[0]) : 600;
        Method[] methods = TallerAhead.class.getDeclaredMethods();
        methods = Arrays.stream(methods).filter(m -> java.lang.reflect.Modifier.isPublic(m.getModifiers()))
            .sorted(Comparator.comparing(Method::getName)).toArray(Method[]::new);
        int wrong = 0;
        for (int run = 0; run < runs && wrong < 3; run++) {
            ModelTest test = new ModelTest(run);
            test.go(methods);
            if (test.failed) {
                wrong++;
                System.out.println("run " + run + ":\n  " + String.join("\n  ", test.said));
            }
        }
        System.out.println(wrong == 0 ? runs + " runs are answered alike" : wrong + " runs are not answered alike");
        if (wrong != 0) {
            System.exit(1);
        }
    }

    private int below(int n) {
        return random.nextInt(n);
    }

    private void go(Method[] methods) throws Exception {
        int people = below(4) == 0 ? below(9) : 4 + below(6);
        // The naive restoring tries all rows, so most runs stay small.
        if (below(5) != 0) {
            people = Math.min(people, 6);
        }
        boolean mayGrowCrowd = people >= 8;
        for (int k = 0; k < people; k++) {
            call(find(methods, "person"), 1 + below(99));
        }
        while (calls < 500 && !failed) {
            int choice = below(60);
            if (choice == 0) {
                tellLaw(methods);
            } else if (choice == 1) {
                tellBook(methods);
            } else if (choice == 2) {
                tellRow(methods);
            } else {
                Method method = methods[below(methods.length)];
                boolean adds = method.getName().equals("person") || method.getName().equals("people");
                if (adds && !mayGrowCrowd && naive.heights.size() >= 6) {
                    continue;
                }
                if (isSlow(method.getName()) && naive.queue.size() > 6 && below(25) != 0) {
                    continue;
                }
                Object[] arguments = new Object[method.getParameterCount()];
                for (int i = 0; i < arguments.length; i++) {
                    long v = argument(method.getName(), i);
                    arguments[i] = method.getParameterTypes()[i] == long.class ? (Object) v : (Object) (int) v;
                }
                call(method, arguments);
            }
        }
    }

    private static boolean isSlow(String name) {
        return name.startsWith("restore") || name.equals("gap");
    }

    private void tellLaw(Method[] methods) throws Exception {
        String text = LAWS[below(LAWS.length)];
        if (below(3) == 0) {
            StringBuilder any = new StringBuilder(text);
            for (int k = 1 + below(3); k > 0; k--) {
                int at = below(any.length() + 1);
                any.insert(at, BYTES.charAt(below(BYTES.length())));
            }
            text = any.toString();
        } else if (below(4) == 0) {
            text = LAWS[below(LAWS.length)] + (below(2) == 0 ? ";" : "&") + text;
        }
        while (naive.count(3) > 0 && below(4) != 0) {
            call(find(methods, "law"));
        }
        for (int k = 0; k < text.length(); k++) {
            call(find(methods, "feed"), (int) text.charAt(k));
        }
        call(find(methods, "law"));
    }

    private void tellBook(Method[] methods) throws Exception {
        int size = naive.queue.size();
        int shelf = below(6);
        int length = below(4) == 0 ? size + below(3) : size;
        call(find(methods, "row"), shelf, 0, length);
        boolean isPlain = below(2) == 0;
        int smears = below(4);
        for (int i = 0; i < length; i++) {
            int v = i >= size ? below(5) - 2 : isPlain ? naive.plain(naive.queue, i) : below(i + 1);
            call(find(methods, "put"), shelf, i, (long) v);
        }
        for (int k = 0; k < smears && length > 0; k++) {
            call(find(methods, "put"), shelf, below(length), -1L);
        }
        if (below(5) == 0 && length > 0) {
            call(find(methods, "put"), shelf, below(length), (long) (below(12) - 3));
        }
        for (int what = 0; what < 2; what++) {
            call(find(methods, "book"), shelf, what);
            if (size <= 6) {
                call(find(methods, "gap"), shelf, below(8) == 0 ? below(80) - 40 : below(16), what);
            }
        }
        call(find(methods, "ways"), shelf, -1);
        call(find(methods, "ways"), shelf, below(20));
        if (size <= 6) {
            call(find(methods, "restored"), shelf, below(size + 1));
            call(find(methods, "restore"), shelf);
        }
    }

    private void tellRow(Method[] methods) throws Exception {
        List<Integer> row = new ArrayList<>(naive.queue);
        java.util.Collections.shuffle(row, random);
        int shelf = below(6);
        call(find(methods, "row"), shelf, 0, row.size());
        for (int i = 0; i < row.size(); i++) {
            call(find(methods, "put"), shelf, i, (long) row.get(i));
        }
        call(find(methods, "far"), shelf);
    }

    private long argument(String name, int i) {
        int odd = below(40);
        if (odd == 0) {
            return new int[] {Integer.MIN_VALUE, Integer.MAX_VALUE, -100, 1000, -3, -2, -1}[below(7)];
        }
        switch (name) {
            case "person": return 1 + below(100);
            case "people": return i == 0 ? below(6) : i == 1 ? below(5) - 1 : 1 + below(9);
            case "mend": return i == 0 ? below(9) : 1 + below(99);
            case "of": return i == 0 ? below(9) : new int[] {0, 1, 2, 3, 4, 10, 11, 12, 5, 9, 13, 3, 4}[below(13)];
            case "feed": return BYTES.charAt(below(BYTES.length()));
            case "enter": case "where": return i == 0 ? below(9) : below(name.equals("where") ? 4 : 9);
            case "grow": return i == 0 ? below(9) : 1 + below(20);
            case "was": return i == 0 ? 1 + below(12) : below(9);
            case "again": return 1 + below(4);
            case "book": case "restored": case "keep": return i == 0 ? below(6) : below(4) - (name.equals("keep") ? 1 : 0);
            case "ways": return i == 0 ? below(6) : below(38) - 1;
            case "gap": return i == 0 ? below(6) : i == 1 ? below(22) - 1 : below(2);
            case "rows": return below(38);
            case "rth": return i == 0 ? below(24) : i == 1 ? below(below(2) == 0 ? 5 : 400) : below(9);
            case "disquiet": case "calm": return below(3);
            case "right": return below(11) - 2;
            case "mixed": return i == 0 ? random.nextInt() : i == 1 ? 1 + below(50) : below(11) - 2;
            case "body": return below(8);
            case "act": return i == 0 ? below(50) : i == 1 ? below(4) : random.nextInt();
            case "trace": return below(16);
            case "row": return i == 0 ? below(6) : i == 1 ? below(5) * below(2) : below(14) - 1;
            case "put": return i == 0 ? below(6) : i == 1 ? below(12) : below(3) == 0 ? random.nextLong() : below(110) - 3;
            case "element": return i == 0 ? below(6) : below(12);
            case "shift": return i == 0 || i == 2 ? below(6) : below(6);
            case "taken": return i == 0 ? below(6) : below(8);
            case "count": return below(8);
            default: return below(9);
        }
    }

    private static Method find(Method[] methods, String name) {
        for (Method method : methods) {
            if (method.getName().equals(name)) {
                return method;
            }
        }
        throw new IllegalStateException(name);
    }

    private void call(Method method, Object... arguments) throws Exception {
        if (failed || calls >= 512) {
            return;
        }
        calls++;
        Object got = method.invoke(real, arguments);
        Method twin = NaiveQueue.class.getDeclaredMethod(method.getName(), method.getParameterTypes());
        Object want = twin.invoke(naive, arguments);
        said.add(method.getName() + Arrays.toString(arguments) + " = " + got);
        if (!got.equals(want)) {
            failed = true;
            said.add("but the naive one answers " + want);
        }
    }
}
