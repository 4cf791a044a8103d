import java.util.Arrays;

/** What the tests share: streets to call, and answers that are due. */
final class Checks {
    static final int MIN = Integer.MIN_VALUE, MAX = Integer.MAX_VALUE;

    private static int wrong;
    private static int done;
    private static String sentence = "";

    private Checks() {
    }

    /** A test of its own for one sentence, named by it: the document's words, shortened where they are many. */
    static void edge(String told, Runnable test) {
        sentence = told;
        done++;
        test.run();
    }

    static void due(String call, long got, long want) {
        if (got != want) {
            wrong++;
            System.out.println(sentence + ": " + call + " answered " + got + ", due is " + want);
        }
    }

    /** To be called at the end of each main method. */
    static void end(String what) {
        System.out.println(wrong == 0 ? done + " " + what : wrong + " answers are not as due");
        if (wrong != 0) {
            System.exit(1);
        }
    }

    static TallerAhead street(int... heights) {
        TallerAhead x = new TallerAhead();
        for (int height : heights) {
            x.person(height);
        }
        return x;
    }

    /** NUMBERS 0, 1, 1, 0, 4. */
    static TallerAhead five() {
        return street(40, 20, 30, 50, 10);
    }

    /** As many as there can be, the tallest first: DISQUIET 36. */
    static TallerAhead nine() {
        return street(90, 80, 70, 60, 50, 40, 30, 20, 10);
    }

    /** A ROW of bytes. */
    static void fill(TallerAhead x, int shelf, int... values) {
        x.row(shelf, 0, values.length);
        for (int i = 0; i < values.length; i++) {
            x.put(shelf, i, values[i]);
        }
    }

    static void feedAll(TallerAhead x, String text) {
        for (int k = 0; k < text.length(); k++) {
            x.feed(text.charAt(k));
        }
    }

    static int tell(TallerAhead x, String text) {
        feedAll(x, text);
        return x.law();
    }

    static void queueIs(TallerAhead x, int... who) {
        due("how many are in the queue", x.count(1), who.length);
        for (int place = 0; place < who.length; place++) {
            due("who stands at " + place, x.of(place, 10), who[place]);
        }
    }

    static void rowIs(TallerAhead x, int shelf, long... values) {
        for (int i = 0; i < values.length; i++) {
            due("element " + i + " of " + Arrays.toString(values), x.element(shelf, i), values[i]);
        }
        due("behind the row's end", x.element(shelf, values.length), Long.MIN_VALUE);
    }

    interface OfShelf {
        int answer(TallerAhead x, int shelf);
    }

    /** A call that wants a ROW of bytes: no such SHELF, nothing there, each other kind. */
    static void wantsBytes(TallerAhead x, OfShelf call) {
        for (int shelf : new int[] {-1, 6, MIN, MAX}) {
            due("shelf " + shelf, call.answer(x, shelf), -1);
        }
        for (int shelf = 0; shelf < 6; shelf++) {
            x.keep(shelf, -1);
            due("nothing on " + shelf, call.answer(x, shelf), -11);
        }
        for (int sort = 1; sort <= 4; sort++) {
            x.row(5, sort, 5);
            due("sort " + sort, call.answer(x, 5), -12);
        }
        x.keep(5, x.body(0));
        due("a HEAD", call.answer(x, 5), -12);
        x.keep(5, -1);
        due("nothing again", call.answer(x, 5), -11);
    }
}
