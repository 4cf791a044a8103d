import java.lang.reflect.Method;
import java.lang.reflect.Modifier;
import java.util.ArrayList;
import java.util.Arrays;
import java.util.Comparator;
import java.util.List;
import java.util.Random;

/** "What is answered so changes nothing", and no call ever throws: whatever is called with, in whatever state. */
public final class RefusalTest {
    private static final List<Integer> REFUSALS = List.of(-1, -2, -3, -5, -11, -12, -13, -14);
    private static final int[] EXTREMES = {
        Integer.MIN_VALUE, Integer.MIN_VALUE + 1, -61, -15, -3, -2, -1, 0, 1, 2, 5, 6, 8, 9, 10, 12, 13, 20, 21, 24, 36, 37, 40, 49, 50, 51,
        59, 60, 61, 99, 100, 120, 127, 255, 256, 512, Integer.MAX_VALUE - 1, Integer.MAX_VALUE,
    };
    /** For calls that take many of them. */
    private static final int[] FEW_EXTREMES = {Integer.MIN_VALUE, -1, 0, 1, 5, 6, 8, 60, Integer.MAX_VALUE};
    private static final String LAW = "a>b+g*3&!(p=q+1);(a+b)%7=g";

    private static Method[] methods;

    public static void main(String[] args) throws Exception {
        methods = Arrays.stream(TallerAhead.class.getDeclaredMethods()).filter(m -> Modifier.isPublic(m.getModifiers()))
            .sorted(Comparator.comparing(Method::getName)).toArray(Method[]::new);
        Checks.edge("What is answered so changes nothing.", RefusalTest::refusedChangesNothing);
        Checks.edge("What is only told changes nothing.", RefusalTest::toldChangesNothing);
        Checks.edge("No call ever throws", RefusalTest::extremes);
        Checks.edge("No call ever throws (behind the 512th call)", RefusalTest::manyCalls);
        Checks.end("sentences on all calls hold");
    }

    private static Object call(TallerAhead x, Method method, Object... arguments) {
        try {
            return method.invoke(x, arguments);
        } catch (ReflectiveOperationException e) {
            throw new IllegalStateException(method.getName() + Arrays.toString(arguments), e);
        }
    }

    /** Each way to make a street that is far from empty. */
    private static TallerAhead street(int kind) {
        TallerAhead x = kind == 0 ? new TallerAhead() : kind == 1 ? Checks.five() : Checks.nine();
        if (kind >= 2) {
            Checks.fill(x, 0, 0, -1, 2, 3, 4, 5, 6, 7, 8);
            Checks.fill(x, 1, 0, 1, 2, 3, 4, 5, 6, 7, 8);
            x.row(2, 3, 60);
            x.row(3, 4, 0);
            for (int k = 0; k < 50; k++) {
                x.body(k % 8);
            }
            x.keep(4, 7);
            x.act(7, 3, 1);
            for (int k = 1; k <= 45; k++) {
                x.mend(k % 2, k % 4 < 2 ? 98 - k % 2 : 94 - k % 2);
            }
            x.undo();
            x.image();
            Checks.tell(x, LAW);
            Checks.feedAll(x, LAW + "&" + LAW);
        }
        if (kind == 3) {
            for (int k = 0; k < 20; k++) {
                x.swap(k % 8);
            }
            x.leave(3);
            x.serve();
        }
        return x;
    }

    /** All that can be seen of a street without changing it. */
    private static List<Long> seen(TallerAhead x) {
        List<Long> all = new ArrayList<>();
        for (int what = 0; what < 7; what++) {
            all.add((long) x.count(what));
            all.add((long) x.disquiet(what));
            for (int number = 0; number < 9; number++) {
                all.add((long) x.of(number, what));
                all.add((long) x.of(number, 10 + what));
            }
        }
        for (int k = 1; k <= 12; k++) {
            for (int place = 0; place < 9; place++) {
                all.add((long) x.was(k, place));
            }
        }
        for (int shelf = 0; shelf < 6; shelf++) {
            for (int k = 0; k < 8; k++) {
                all.add((long) x.taken(shelf, k));
            }
            for (int i = 0; i < 60; i++) {
                all.add(x.element(shelf, i));
            }
        }
        for (int i = 0; i < 24; i++) {
            all.add((long) x.trace(i));
        }
        return all;
    }

    /** What can be seen only by changing it: what is UNDONE, DONE AGAIN, THE IMAGE, YESTERDAY, THE TAPE and THE LAW. */
    private static List<Long> seenInTheEnd(TallerAhead x) {
        List<Long> all = seen(x);
        for (int k = 0; k < 41; k++) {
            all.add((long) x.redo());
            all.add((long) x.of(0, 0));
        }
        for (int k = 0; k < 42; k++) {
            all.add((long) x.undo());
            all.addAll(List.of((long) x.of(0, 0), (long) x.of(1, 0)));
        }
        all.add((long) x.again(1));
        all.addAll(seen(x));
        all.add((long) x.back());
        all.addAll(seen(x));
        all.add((long) x.law());
        all.addAll(seen(x));
        return all;
    }

    private static void same(String what, List<Long> one, List<Long> other) {
        int place = 0;
        while (place < one.size() && place < other.size() && one.get(place).equals(other.get(place))) {
            place++;
        }
        Checks.due(what + ": as much is seen alike", place, Math.max(one.size(), other.size()));
    }

    private static boolean isRefused(Method method, Object answer) {
        // An act() with 0 forgets THE TRACE; all else that is below 0 changes nothing, but for a FAULT.
        return !method.getName().equals("act") && answer instanceof Integer number && REFUSALS.contains(number);
    }

    /** Two streets, of which one is spared all calls that the other has refused, answer alike. */
    private static void refusedChangesNothing() {
        int refused = 0;
        for (int run = 0; run < 300; run++) {
            Random random = new Random(run);
            TallerAhead all = street(run % 4);
            TallerAhead spared = street(run % 4);
            for (int k = 0; k < 150; k++) {
                Method method = methods[random.nextInt(methods.length)];
                Object[] arguments = arguments(method, random);
                Object answer = call(all, method, arguments);
                if (isRefused(method, answer)) {
                    refused++;
                } else {
                    Object other = call(spared, method, arguments);
                    Checks.due(method.getName() + Arrays.toString(arguments), answer.equals(other) ? 1 : 0, 1);
                }
            }
            same("run " + run, seenInTheEnd(all), seenInTheEnd(spared));
        }
        Checks.due("many were refused", refused > 10000 ? 1 : 0, 1);
    }

    private static Object[] arguments(Method method, Random random) {
        Object[] arguments = new Object[method.getParameterCount()];
        boolean edges = random.nextInt(4) == 0;
        for (int i = 0; i < arguments.length; i++) {
            int v = edges ? EXTREMES[random.nextInt(EXTREMES.length)] : random.nextInt(12) - 2;
            arguments[i] = method.getParameterTypes()[i] == long.class ? (Object) (long) v : (Object) v;
        }
        return arguments;
    }

    private static void toldChangesNothing() {
        List<String> told = List.of("of", "disquiet", "was", "book", "restored", "ways", "gap", "rows", "rth", "calm", "where", "growth",
            "far", "sorted", "right", "mixed", "trace", "element", "taken", "count");
        for (int kind = 0; kind < 4; kind++) {
            TallerAhead x = street(kind);
            List<Long> before = seen(x);
            Random random = new Random(kind);
            for (int k = 0; k < 4000; k++) {
                Method method = methods[random.nextInt(methods.length)];
                if (told.contains(method.getName())) {
                    call(x, method, arguments(method, random));
                }
            }
            same("street " + kind, seen(x), before);
            same("street " + kind + " in the end", seenInTheEnd(x), seenInTheEnd(street(kind)));
        }
    }

    private static void extremes() {
        for (int kind = 0; kind < 4; kind++) {
            for (Method method : methods) {
                int parameters = method.getParameterCount();
                int[] values = parameters <= 2 ? EXTREMES : FEW_EXTREMES;
                int combinations = (int) Math.pow(values.length, parameters);
                TallerAhead x = street(kind);
                for (int k = 0; k < combinations; k++) {
                    Object[] arguments = new Object[parameters];
                    int rest = k;
                    for (int i = 0; i < parameters; i++) {
                        int v = values[rest % values.length];
                        rest /= values.length;
                        arguments[i] = method.getParameterTypes()[i] == long.class ? (Object) (long) v : (Object) v;
                    }
                    Object answer = call(x, method, arguments);
                    Checks.due(method.getName() + " is answered", answer == null ? 0 : 1, 1);
                    if (k % 400 == 399) {
                        x = street(kind);
                    }
                }
            }
        }
    }

    private static void manyCalls() {
        Random random = new Random(1);
        TallerAhead x = street(3);
        for (int k = 0; k < 200000; k++) {
            Method method = methods[random.nextInt(methods.length)];
            call(x, method, arguments(method, random));
        }
        Checks.due("PEOPLE", x.count(0), 9);
    }
}
