import java.util.ArrayList;
import java.util.Arrays;
import java.util.Collections;
import java.util.HashMap;
import java.util.List;
import java.util.Map;

/** The document done a second time as plainly as can be, by trying everything; for the tests to compare with. */
final class NaiveQueue {
    static final int BAD = -1, NOT = -2, FULL = -3, STATE = -5;

    private static final Map<Integer, List<List<int[]>>> PERMUTATIONS = new HashMap<>();

    final List<Integer> heights = new ArrayList<>();
    List<Integer> queue = new ArrayList<>();
    private final int[] changes = new int[9];
    private final int[] greatest = new int[9];
    private String law;
    private final StringBuilder tape = new StringBuilder();
    private final List<List<Integer>> yesterday = new ArrayList<>();
    private final List<int[]> undos = new ArrayList<>();
    private final List<int[]> redos = new ArrayList<>();
    private List<Integer> image;
    private final List<NaiveHeads.Head> heads = new ArrayList<>();
    private final List<Integer> trace = new ArrayList<>();
    private final Object[] shelves = new Object[6];

    // ---- numbers

    private boolean counts(List<Integer> row, int i, int j) {
        return countsFor(row, i, j, heights.get(row.get(j)));
    }

    private boolean countsFor(List<Integer> row, int i, int j, int own) {
        int p = row.get(i);
        return law == null ? heights.get(p) > own : NaiveLaw.worth(law, heights.get(p), own, j - i, p, row.get(j)) != 0;
    }

    int number(List<Integer> row, int place) {
        int sum = 0;
        for (int i = 0; i < place; i++) {
            sum += counts(row, i, place) ? 1 : 0;
        }
        return sum;
    }

    int plain(List<Integer> row, int place) {
        int sum = 0;
        for (int i = 0; i < place; i++) {
            sum += heights.get(row.get(i)) > heights.get(row.get(place)) ? 1 : 0;
        }
        return sum;
    }

    int disquiet(List<Integer> row) {
        int sum = 0;
        for (int i = 0; i < row.size(); i++) {
            sum += number(row, i);
        }
        return sum;
    }

    private int plainDisquiet(List<Integer> row) {
        int sum = 0;
        for (int i = 0; i < row.size(); i++) {
            sum += plain(row, i);
        }
        return sum;
    }

    private boolean isPerson(int p) {
        return p >= 0 && p < heights.size();
    }

    private boolean isPlace(int place) {
        return place >= 0 && place < queue.size();
    }

    private boolean isTakenByOther(int height, int person) {
        int at = heights.indexOf(height);
        return at >= 0 && at != person;
    }

    private Map<Integer, Integer> numbersNow() {
        Map<Integer, Integer> now = new HashMap<>();
        for (int i = 0; i < queue.size(); i++) {
            now.put(queue.get(i), number(queue, i));
        }
        return now;
    }

    /** Does what is given in deed. */
    private void deed(Runnable change) {
        Map<Integer, Integer> before = numbersNow();
        yesterday.add(new ArrayList<>(queue));
        if (yesterday.size() > 12) {
            yesterday.remove(0);
        }
        change.run();
        numbersNow().forEach((who, number) -> {
            if (before.containsKey(who) && !before.get(who).equals(number)) {
                changes[who]++;
            }
            greatest[who] = Math.max(greatest[who], number);
        });
    }

    // ---- people, the queue

    int person(int height) {
        if (height < 1 || height > 99 || heights.contains(height)) {
            return BAD;
        }
        if (heights.size() == 9) {
            return FULL;
        }
        heights.add(height);
        queue.add(heights.size() - 1);
        return heights.size() - 1;
    }

    int people(int shelf, int i, int n) {
        if (shelf < 0 || shelf > 5 || n < 1 || n > 9) {
            return BAD;
        }
        if (shelves[shelf] == null) {
            return 0;
        }
        if (!(shelves[shelf] instanceof byte[] row)) {
            return -12;
        }
        int came = 0;
        while (came < n && i >= 0 && i < row.length && person(row[i]) >= 0) {
            came++;
            i++;
        }
        return came;
    }

    int mend(int person, int v) {
        if (!isPerson(person) || v < 1 || v > 99 || isTakenByOther(v, person)) {
            return BAD;
        }
        int was = heights.get(person);
        if (was != v) {
            heights.set(person, v);
            undos.add(new int[] {person, was, v});
            if (undos.size() > 40) {
                undos.remove(0);
            }
            redos.clear();
        }
        return was;
    }

    int of(int number, int what) {
        if (what >= 10 && what <= 12) {
            if (!isPlace(number)) {
                return BAD;
            }
            return what == 10 ? queue.get(number) : what == 11 ? number(queue, number) : plain(queue, number);
        }
        if (what < 0 || what > 4 || !isPerson(number)) {
            return BAD;
        }
        int place = queue.indexOf(number);
        switch (what) {
            case 0: return heights.get(number);
            case 1: return place < 0 ? NOT : place;
            case 2: return place < 0 ? NOT : number(queue, place);
            case 3: return changes[number];
            default: return greatest[number];
        }
    }

    int feed(int letter) {
        if (letter < 0 || letter > 255) {
            return BAD;
        }
        if (tape.length() == 120) {
            return FULL;
        }
        tape.append((char) letter);
        return tape.length();
    }

    int law() {
        String text = tape.toString();
        tape.setLength(0);
        int fault = NaiveLaw.faultOf(text);
        if (fault >= 0) {
            return -100 - fault;
        }
        law = text;
        return 1;
    }

    int disquiet(int what) {
        switch (what) {
            case 0: return disquiet(queue);
            case 1: return plainDisquiet(queue);
            case 2:
                int cost = 0;
                for (int served = 0; served < queue.size(); served++) {
                    cost += disquiet(queue.subList(served, queue.size()));
                }
                return cost;
            default: return BAD;
        }
    }

    // ---- in deed

    int swap(int i) {
        if (!isPlace(i) || !isPlace(i + 1)) {
            return BAD;
        }
        deed(() -> Collections.swap(queue, i, i + 1));
        return disquiet(queue);
    }

    int enter(int person, int place) {
        if (!isPerson(person) || place < 0 || place > queue.size()) {
            return BAD;
        }
        if (queue.contains(person)) {
            return STATE;
        }
        deed(() -> queue.add(place, person));
        return disquiet(queue);
    }

    int leave(int place) {
        if (!isPlace(place)) {
            return BAD;
        }
        int who = queue.get(place);
        deed(() -> queue.remove(place));
        return who;
    }

    int serve() {
        return queue.isEmpty() ? STATE : leave(0);
    }

    int grow(int person, int d) {
        if (!isPerson(person) || d < 1 || d > 20) {
            return BAD;
        }
        int height = heights.get(person) + d;
        while (isTakenByOther(height, person)) {
            height++;
        }
        if (height > 99) {
            return BAD;
        }
        int grown = height;
        deed(() -> heights.set(person, grown));
        return height;
    }

    private int refusalOfBook(int shelf) {
        return shelves[shelf] == null ? -11 : shelves[shelf] instanceof byte[] ? 0 : -12;
    }

    private boolean hasFalse(byte[] row) {
        for (int i = 0; i < row.length && i < queue.size(); i++) {
            if (row[i] < -1 || row[i] > i) {
                return true;
            }
        }
        return false;
    }

    /** Tries all rows of those in THE QUEUE for the one that has these PLAIN NUMBERS. */
    private List<Integer> rowWith(int[] numbers) {
        for (List<int[]> same : permutations(queue.size())) {
            for (int[] order : same) {
                List<Integer> row = byHeights(order);
                boolean fits = true;
                for (int i = 0; i < numbers.length && fits; i++) {
                    fits = plain(row, i) == numbers[i];
                }
                if (fits) {
                    return row;
                }
            }
        }
        throw new IllegalStateException("no row has such numbers");
    }

    private List<Integer> byHeights(int[] order) {
        List<Integer> smallestFirst = new ArrayList<>(queue);
        smallestFirst.sort((x, y) -> heights.get(x) - heights.get(y));
        List<Integer> row = new ArrayList<>();
        for (int k : order) {
            row.add(smallestFirst.get(k));
        }
        return row;
    }

    private Object restoredOrRefusal(int shelf) {
        int refusal = refusalOfBook(shelf);
        if (refusal != 0) {
            return refusal;
        }
        byte[] row = (byte[]) shelves[shelf];
        if (row.length != queue.size() || hasFalse(row)) {
            return STATE;
        }
        int[] numbers = new int[row.length];
        for (int i = 0; i < row.length; i++) {
            if (row[i] == -1) {
                return STATE;
            }
            numbers[i] = row[i];
        }
        return rowWith(numbers);
    }

    @SuppressWarnings("unchecked")
    int restore(int shelf) {
        if (shelf < 0 || shelf > 5) {
            return BAD;
        }
        Object row = restoredOrRefusal(shelf);
        if (row instanceof Integer refusal) {
            return refusal;
        }
        deed(() -> queue = new ArrayList<>((List<Integer>) row));
        return 1;
    }

    int was(int k, int place) {
        if (k < 1 || k > yesterday.size()) {
            return BAD;
        }
        List<Integer> then = yesterday.get(yesterday.size() - k);
        return place < 0 || place >= then.size() ? BAD : then.get(place);
    }

    int again(int k) {
        if (k < 1 || k > yesterday.size()) {
            return BAD;
        }
        queue = new ArrayList<>(yesterday.get(yesterday.size() - k));
        for (int i = 0; i < k; i++) {
            yesterday.remove(yesterday.size() - 1);
        }
        return yesterday.size();
    }

    // ---- books

    int book(int shelf, int what) {
        if (shelf < 0 || shelf > 5 || what < 0 || what > 1) {
            return BAD;
        }
        int refusal = refusalOfBook(shelf);
        if (refusal != 0) {
            return refusal;
        }
        byte[] row = (byte[]) shelves[shelf];
        for (int i = 0; i < row.length && i < queue.size(); i++) {
            boolean found = what == 0 ? row[i] < -1 || row[i] > i : row[i] != -1 && row[i] != number(queue, i);
            if (found) {
                return i;
            }
        }
        return NOT;
    }

    @SuppressWarnings("unchecked")
    int restored(int shelf, int place) {
        if (shelf < 0 || shelf > 5 || !isPlace(place)) {
            return BAD;
        }
        Object row = restoredOrRefusal(shelf);
        return row instanceof Integer refusal ? refusal : ((List<Integer>) row).get(place);
    }

    private int fillings(byte[] row, int place, int sum, int d) {
        if (place == queue.size()) {
            return d < 0 || sum == d ? 1 : 0;
        }
        if (row[place] != -1) {
            return fillings(row, place + 1, sum + row[place], d);
        }
        int ways = 0;
        for (int v = 0; v <= place; v++) {
            ways += fillings(row, place + 1, sum + v, d);
        }
        return ways;
    }

    int ways(int shelf, int d) {
        if (shelf < 0 || shelf > 5 || d < -1 || d > 36) {
            return BAD;
        }
        int refusal = refusalOfBook(shelf);
        if (refusal != 0) {
            return refusal;
        }
        byte[] row = (byte[]) shelves[shelf];
        return row.length < queue.size() || hasFalse(row) ? STATE : fillings(row, 0, 0, d);
    }

    int gap(int shelf, int d, int what) {
        if (shelf < 0 || shelf > 5 || d < 0 || d > 36 || what < 0 || what > 1) {
            return BAD;
        }
        int refusal = refusalOfBook(shelf);
        if (refusal != 0) {
            return refusal;
        }
        byte[] row = (byte[]) shelves[shelf];
        if (row.length < queue.size() || hasFalse(row)) {
            return STATE;
        }
        int[] numbers = new int[queue.size()];
        List<Integer> smeared = new ArrayList<>();
        for (int i = 0; i < numbers.length; i++) {
            numbers[i] = row[i];
            if (row[i] == -1) {
                smeared.add(i);
            }
        }
        if (smeared.size() != 1) {
            return STATE;
        }
        int place = smeared.get(0);
        for (int v = 0; v <= place; v++) {
            numbers[place] = v;
            if (Arrays.stream(numbers).sum() == d) {
                return what == 0 ? v : rowWith(numbers).get(place);
            }
        }
        return NOT;
    }

    /** By DISQUIET: all orders of 0 .. n-1, the least ahead first. */
    private static List<List<int[]>> permutations(int n) {
        return PERMUTATIONS.computeIfAbsent(n, size -> {
            List<List<int[]>> found = new ArrayList<>();
            for (int d = 0; d <= 36; d++) {
                found.add(new ArrayList<>());
            }
            collect(found, new int[size], 0, 0);
            return found;
        });
    }

    private static void collect(List<List<int[]>> found, int[] order, int place, int used) {
        if (place == order.length) {
            int d = 0;
            for (int j = 0; j < order.length; j++) {
                for (int i = 0; i < j; i++) {
                    d += order[i] > order[j] ? 1 : 0;
                }
            }
            found.get(d).add(order.clone());
            return;
        }
        for (int k = 0; k < order.length; k++) {
            if ((used >> k & 1) == 0) {
                order[place] = k;
                collect(found, order, place + 1, used | 1 << k);
            }
        }
    }

    int rows(int d) {
        return d < 0 || d > 36 ? BAD : permutations(queue.size()).get(d).size();
    }

    int rth(int d, int r, int place) {
        if (d < 0 || d > 36 || r < 0 || !isPlace(place)) {
            return BAD;
        }
        List<int[]> all = permutations(queue.size()).get(d);
        return r >= all.size() ? NOT : byHeights(all.get(r)).get(place);
    }

    // ---- in thought

    int calm(int what) {
        if (what < 0 || what > 1) {
            return BAD;
        }
        int least = disquiet(queue);
        int places = NOT;
        for (int i = 0; i < queue.size(); i++) {
            for (int j = i + 1; j < queue.size(); j++) {
                List<Integer> row = new ArrayList<>(queue);
                Collections.swap(row, i, j);
                if (disquiet(row) < least) {
                    least = disquiet(row);
                    places = 10 * i + j;
                }
            }
        }
        return places == NOT ? NOT : what == 0 ? places : least;
    }

    int where(int person, int what) {
        if (!isPerson(person) || what < 0 || what > 3) {
            return BAD;
        }
        if (queue.contains(person)) {
            return STATE;
        }
        int best = -1;
        int least = Integer.MAX_VALUE;
        for (int place = 0; place <= queue.size(); place++) {
            List<Integer> row = new ArrayList<>(queue);
            row.add(place, person);
            int value = what % 2 == 0 ? disquiet(row) : number(row, place);
            if (value < least) {
                least = value;
                best = place;
            }
        }
        return what < 2 ? best : least;
    }

    int growth(int person) {
        if (!isPerson(person)) {
            return BAD;
        }
        int place = queue.indexOf(person);
        if (place < 0) {
            return STATE;
        }
        for (int d = 0; d <= 60; d++) {
            int number = 0;
            for (int i = 0; i < place; i++) {
                number += countsFor(queue, i, place, heights.get(person) + d) ? 1 : 0;
            }
            if (number == 0) {
                return d;
            }
        }
        return NOT;
    }

    private static int bubbles(List<Integer> keys) {
        List<Integer> row = new ArrayList<>(keys);
        int steps = 0;
        for (int round = 0; round < row.size(); round++) {
            for (int i = 0; i + 1 < row.size(); i++) {
                if (row.get(i) > row.get(i + 1)) {
                    Collections.swap(row, i, i + 1);
                    steps++;
                }
            }
        }
        return steps;
    }

    int far(int shelf) {
        if (shelf < 0 || shelf > 5) {
            return BAD;
        }
        int refusal = refusalOfBook(shelf);
        if (refusal != 0) {
            return refusal;
        }
        List<Integer> target = new ArrayList<>();
        for (byte b : (byte[]) shelves[shelf]) {
            target.add((int) b);
        }
        List<Integer> one = new ArrayList<>(target);
        List<Integer> other = new ArrayList<>(queue);
        Collections.sort(one);
        Collections.sort(other);
        if (!one.equals(other)) {
            return STATE;
        }
        List<Integer> keys = new ArrayList<>();
        for (int who : queue) {
            keys.add(target.indexOf(who));
        }
        return bubbles(keys);
    }

    int sorted() {
        List<Integer> keys = new ArrayList<>();
        for (int who : queue) {
            keys.add(heights.get(who));
        }
        return bubbles(keys);
    }

    private boolean maySo(int who, List<Integer> left, Map<Integer, Integer> numbers) {
        for (int other : left) {
            if (heights.get(other) > heights.get(who) && numbers.get(other) < numbers.get(who)) {
                return false;
            }
        }
        return true;
    }

    private int orders(List<Integer> left, Map<Integer, Integer> numbers, Map<List<Integer>, Integer> known) {
        if (left.isEmpty()) {
            return 1;
        }
        if (known.containsKey(left)) {
            return known.get(left);
        }
        int sum = 0;
        for (Integer who : left) {
            if (maySo(who, left, numbers)) {
                List<Integer> rest = new ArrayList<>(left);
                rest.remove(who);
                sum += orders(rest, numbers, known);
            }
        }
        known.put(left, sum);
        return sum;
    }

    int right(int k) {
        if (k < -2 || k >= queue.size()) {
            return BAD;
        }
        Map<Integer, Integer> numbers = numbersNow();
        List<Integer> left = new ArrayList<>(queue);
        Collections.sort(left);
        if (k == -1) {
            return orders(left, numbers, new HashMap<>());
        }
        if (k == -2) {
            int bits = 0;
            for (int who : left) {
                bits += maySo(who, left, numbers) ? 1 << who : 0;
            }
            return bits;
        }
        Integer served = NOT;
        for (int turn = 0; turn <= k; turn++) {
            for (Integer who : left) {
                if (maySo(who, left, numbers)) {
                    served = who;
                    break;
                }
            }
            left.remove(served);
        }
        return served;
    }

    int mixed(int seed, int n, int person) {
        if (n < 1 || n > 50 || person < -2 || person >= heights.size()) {
            return BAD;
        }
        int z = seed;
        int sum = 0;
        int less = 0;
        int first = 0;
        for (int time = 0; time < n; time++) {
            List<Integer> row = new ArrayList<>(queue);
            for (int i = row.size() - 1; i >= 1; i--) {
                z = z * 1103515245 + 12345;
                Collections.swap(row, i, (z >>> 8) % (i + 1));
            }
            sum += disquiet(row);
            less += disquiet(row) < disquiet(queue) ? 1 : 0;
            first += !row.isEmpty() && row.get(0) == person ? 1 : 0;
        }
        return person == -2 ? sum : person == -1 ? less : first;
    }

    int image() {
        image = new ArrayList<>(queue);
        return queue.size();
    }

    int back() {
        if (image == null) {
            return STATE;
        }
        queue = new ArrayList<>(image);
        return queue.size();
    }

    int undo() {
        return move(undos, redos, 1);
    }

    int redo() {
        return move(redos, undos, 2);
    }

    private int move(List<int[]> from, List<int[]> to, int which) {
        if (from.isEmpty()) {
            return STATE;
        }
        int[] change = from.get(from.size() - 1);
        if (isTakenByOther(change[which], change[0])) {
            return STATE;
        }
        heights.set(change[0], change[which]);
        to.add(from.remove(from.size() - 1));
        return from.size();
    }

    // ---- acts, shelves

    int body(int kind) {
        if (kind < 0 || kind > 7) {
            return BAD;
        }
        if (heads.size() == 50) {
            return FULL;
        }
        heads.add(NaiveHeads.make(kind, heads.size()));
        return heads.size() - 1;
    }

    int act(int body, int act, int x) {
        trace.clear();
        if (body < 0 || body >= heads.size() || act < 0 || act > 3) {
            return 0;
        }
        int answer = NaiveHeads.act(heads.get(body), act, x);
        trace.addAll(heads.get(body).trace);
        return answer;
    }

    int trace(int i) {
        return i < 0 || i >= trace.size() || i >= 24 ? BAD : trace.get(i);
    }

    int keep(int shelf, int body) {
        if (shelf < 0 || shelf > 5 || body < -1 || body >= heads.size()) {
            return BAD;
        }
        shelves[shelf] = body < 0 ? null : heads.get(body);
        return 1;
    }

    int row(int shelf, int sort, int n) {
        if (shelf < 0 || shelf > 5 || sort < 0 || sort > 4 || n > 60) {
            return BAD;
        }
        if (n < 0) {
            return -14;
        }
        switch (sort) {
            case 0: shelves[shelf] = new byte[n]; break;
            case 1: shelves[shelf] = new short[n]; break;
            case 2: shelves[shelf] = new int[n]; break;
            case 3: shelves[shelf] = new long[n]; break;
            default: shelves[shelf] = new boolean[n]; break;
        }
        return 1;
    }

    int put(int shelf, int i, long v) {
        if (shelf < 0 || shelf > 5) {
            return BAD;
        }
        Object o = shelves[shelf];
        if (o == null) {
            return -11;
        }
        if (!o.getClass().isArray()) {
            return -12;
        }
        if (i < 0 || i >= java.lang.reflect.Array.getLength(o)) {
            return -13;
        }
        if (o instanceof byte[] r) {
            r[i] = (byte) v;
        } else if (o instanceof short[] r) {
            r[i] = (short) v;
        } else if (o instanceof int[] r) {
            r[i] = (int) v;
        } else if (o instanceof long[] r) {
            r[i] = v;
        } else if (o instanceof boolean[] r) {
            r[i] = v != 0;
        }
        return 1;
    }

    long element(int shelf, int i) {
        if (shelf < 0 || shelf > 5 || shelves[shelf] == null || !shelves[shelf].getClass().isArray()) {
            return Long.MIN_VALUE;
        }
        Object o = shelves[shelf];
        if (i < 0 || i >= java.lang.reflect.Array.getLength(o)) {
            return Long.MIN_VALUE;
        }
        if (o instanceof boolean[] r) {
            return r[i] ? 1 : 0;
        }
        return java.lang.reflect.Array.getLong(o, i);
    }

    int shift(int shelf, int i, int other, int j, int n) {
        if (shelf < 0 || shelf > 5 || other < 0 || other > 5) {
            return BAD;
        }
        try {
            // The host's own refusals are what is told here.
            System.arraycopy(shelves[shelf], i, shelves[other], j, n);
            return n;
        } catch (NullPointerException e) {
            return -11;
        } catch (ArrayStoreException e) {
            return -12;
        } catch (IndexOutOfBoundsException e) {
            return -13;
        }
    }

    int taken(int shelf, int k) {
        if (shelf < 0 || shelf > 5 || k < 0 || k > 7) {
            return BAD;
        }
        if (shelves[shelf] == null) {
            return -11;
        }
        return shelves[shelf] instanceof NaiveHeads.Head head && NaiveHeads.isUnder(head, k) ? head.kind : -12;
    }

    int count(int what) {
        switch (what) {
            case 0: return heights.size();
            case 1: return queue.size();
            case 2: return yesterday.size();
            case 3: return tape.length();
            case 4: return undos.size();
            case 5: return heads.size();
            case 6: return trace.size();
            default: return BAD;
        }
    }
}
