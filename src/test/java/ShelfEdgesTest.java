/** The boundary cases of promises 34 to 43 and of section 5: a test for each sentence. */
public final class ShelfEdgesTest {
    private static final int MIN = Checks.MIN, MAX = Checks.MAX;
    private static final int HALF = 1 << 30;

    public static void main(String[] args) {
        Checks.edge("body: A HEAD of a KIND (0 .. 7) is kept: its number. BAD", ShelfEdgesTest::kinds);
        Checks.edge("BODIES 0 .. 49; body: FULL", ShelfEdgesTest::fiftyBodies);
        Checks.edge("act: 0, and no TRACE then: no such HEAD", ShelfEdgesTest::noSuchHead);
        Checks.edge("act: 0, and no TRACE then: no such ... ACT (0 .. 3)", ShelfEdgesTest::noSuchAct);
        Checks.edge("ACTS with x (an int that wraps)", ShelfEdgesTest::actsWrap);
        Checks.edge("n its number", ShelfEdgesTest::firstAndLastNumber);
        Checks.edge("trace: THE TRACE's i-th body. BAD", ShelfEdgesTest::traceAtTheEdges);
        Checks.edge("THE TRACE: numbers of the bodies that ran in the latest act()", ShelfEdgesTest::latestAct);
        Checks.edge("the first 24 are kept", ShelfEdgesTest::longestTrace);
        Checks.edge("SHELVES 0 .. 5; keep: BAD", ShelfEdgesTest::keepRefused);
        Checks.edge("keep: A SHELF holds nothing (body -1), or a HEAD: 1", ShelfEdgesTest::keepAtTheEdges);
        Checks.edge("SHELVES each hold nothing (at first)", ShelfEdgesTest::nothingAtFirst);
        Checks.edge("row: BAD (sort, n above 60)", ShelfEdgesTest::rowRefused);
        Checks.edge("row: -14 a size below 0", ShelfEdgesTest::sizeBelowNought);
        Checks.edge("a ROW ... of 0 .. 60 elements", ShelfEdgesTest::shortestAndLongest);
        Checks.edge("0 at first (false)", ShelfEdgesTest::noughtAtFirst);
        Checks.edge("what is put in keeps its lowest bits", ShelfEdgesTest::lowestBits);
        Checks.edge("(a boolean: whether it is not 0; 1 or 0)", ShelfEdgesTest::booleans);
        Checks.edge("put: BAD, -11, -12, -13", ShelfEdgesTest::putRefused);
        Checks.edge("element: Long.MIN_VALUE: BAD, -11 to -13", ShelfEdgesTest::elementRefused);
        Checks.edge("shift: BAD", ShelfEdgesTest::shiftOfNoShelf);
        Checks.edge("shift: -11 (either)", ShelfEdgesTest::shiftOfNothing);
        Checks.edge("shift: -12 (no ROWS, or of unlike sorts)", ShelfEdgesTest::shiftOfOtherKinds);
        Checks.edge("shift: -13 a place that is not there", ShelfEdgesTest::shiftOfNoPlace);
        Checks.edge("shift: n elements", ShelfEdgesTest::shiftNoneAndAll);
        Checks.edge("shift: (or the same) ..., as they all were before", ShelfEdgesTest::shiftOntoItself);
        Checks.edge("taken: BAD", ShelfEdgesTest::takenRefused);
        Checks.edge("taken: -11, -12", ShelfEdgesTest::takenOfNoHead);
        Checks.edge("taken: for a HEAD of KIND k (0 .. 7), or under it: its KIND", ShelfEdgesTest::takenFor);
        Checks.edge("count: BAD", ShelfEdgesTest::countRefused);
        Checks.edge("count: How many", ShelfEdgesTest::countsAtTheEdges);
        Checks.end("sentences on acts and shelves hold at their edges");
    }

    private static void due(String call, long got, long want) {
        Checks.due(call, got, want);
    }

    private static TallerAhead head(int kind) {
        TallerAhead x = new TallerAhead();
        x.body(kind);
        return x;
    }

    private static void kinds() {
        TallerAhead x = new TallerAhead();
        for (int kind : new int[] {-1, 8, 9, MIN, MAX}) {
            due("kind " + kind, x.body(kind), -1);
        }
        due("none kept", x.count(5), 0);
        due("kind 0", x.body(0), 0);
        due("kind 7", x.body(7), 1);
    }

    private static void fiftyBodies() {
        TallerAhead x = new TallerAhead();
        for (int k = 0; k < 50; k++) {
            due("body", x.body(k % 8), k);
        }
        due("one more", x.body(0), -3);
        due("BAD ahead of FULL", x.body(8), -1);
        due("BAD ahead of FULL", x.body(-1), -1);
        due("how many", x.count(5), 50);
        x.keep(0, 49);
        due("the last one's kind", x.taken(0, 0), 1);
        due("no fiftieth", x.keep(0, 50), -1);
    }

    private static void noSuchHead() {
        TallerAhead x = head(7);
        for (int body : new int[] {-1, 1, 49, 50, MIN, MAX}) {
            due("an act that is", x.act(0, 3, 5) != 0 ? 1 : 0, 1);
            due("ran", x.count(6), 14);
            due("act of " + body, x.act(body, 0, 5), 0);
            due("no TRACE then", x.trace(0), -1);
            due("none ran", x.count(6), 0);
        }
        due("nobody yet", new TallerAhead().act(0, 0, 5), 0);
    }

    private static void noSuchAct() {
        TallerAhead x = head(7);
        for (int act : new int[] {-1, 4, 5, MIN, MAX}) {
            due("an act that is", x.act(0, 3, 5) != 0 ? 1 : 0, 1);
            due("act " + act, x.act(0, act, 5), 0);
            due("no TRACE then", x.trace(0), -1);
            due("none ran", x.count(6), 0);
        }
    }

    private static void actsWrap() {
        due("1 says: x + n", numberOne(0).act(1, 0, MAX), MIN);
        due("10 stands: says(x) * 2", head(0).act(0, 1, MAX), -2);
        due("10 stands: says(x) * 2", head(0).act(0, 1, MIN), 0);
        due("11 moves: x ^ n", numberOne(0).act(1, 2, MIN), MIN + 1);
        due("2 tells: stands(x) - moves(1)", head(0).act(0, 3, HALF), MAX);
        due("20 says: super.says(x) + 3", head(1).act(0, 0, MAX), MIN + 2);
        due("30 stands: -super.stands(x)", head(2).act(0, 1, HALF), MIN);
        due("40 moves: super.moves(x) * 3", head(3).act(0, 2, MAX), MAX - 2);
        due("41 stands: super.stands(x + 1)", head(3).act(0, 1, MAX), 0);
        due("41 stands: super.stands(x + 1)", head(3).act(0, 1, HALF - 1), MIN);
        due("50 moves: super.moves(x) - says(2)", head(4).act(0, 2, MIN), MAX - 4);
        due("60 tells: super.tells(x) ^ 5", head(5).act(0, 3, HALF - 1), (MAX - 2) ^ 5);
        due("70 says: super.says(x) * 2", head(6).act(0, 0, MIN), 0);
        due("70 says: super.says(x) * 2", head(6).act(0, 0, HALF), MIN);
        // stands: (HALF + 3) * 2 + (2 - 5); moves(1): 1 - 5.
        due("80 stands: super.stands(x) + moves(2)", head(7).act(0, 1, HALF), MIN + 3);
        due("81 tells: super.tells(x) - 1", head(7).act(0, 3, HALF), MIN + 6);
        // stands is MAX here, and 4 - 1 goes on past it.
        due("81 tells: super.tells(x) - 1", head(7).act(0, 3, HALF - 2), MIN + 2);
    }

    private static TallerAhead numberOne(int kind) {
        TallerAhead x = head(kind);
        x.body(kind);
        return x;
    }

    private static void firstAndLastNumber() {
        TallerAhead x = new TallerAhead();
        for (int k = 0; k < 50; k++) {
            x.body(0);
        }
        due("says of 0", x.act(0, 0, 10), 10);
        due("says of 49", x.act(49, 0, 10), 59);
        due("moves of 49", x.act(49, 2, 1), 48);
        due("moves of 0", x.act(0, 2, 1), 1);
    }

    private static void traceAtTheEdges() {
        TallerAhead x = head(0);
        due("ahead of all acts", x.trace(0), -1);
        x.act(0, 0, 1);
        due("the only one", x.trace(0), 1);
        for (int i : new int[] {-1, 1, 2, 23, 24, MIN, MAX}) {
            due("i " + i, x.trace(i), -1);
        }
    }

    private static void latestAct() {
        TallerAhead x = head(7);
        x.act(0, 3, 1);
        due("the first", x.trace(0), 81);
        due("the last", x.trace(13), 1);
        due("none behind", x.trace(14), -1);
        x.act(0, 0, 1);
        due("the first of the next act", x.trace(0), 20);
        due("the last of it", x.trace(1), 1);
        due("none of the one ahead", x.trace(2), -1);
        due("ran", x.count(6), 2);
    }

    /** No ACT runs more than 14 bodies, so all are kept. */
    private static void longestTrace() {
        for (int kind = 0; kind < 8; kind++) {
            TallerAhead x = head(kind);
            for (int act = 0; act < 4; act++) {
                x.act(0, act, 1);
                int ran = x.count(6);
                due("at most 14", ran >= 1 && ran <= 14 ? 1 : 0, 1);
                due("the last is kept", x.trace(ran - 1) > 0 ? 1 : 0, 1);
                due("none behind", x.trace(ran), -1);
            }
        }
    }

    private static void keepRefused() {
        TallerAhead x = head(0);
        for (int shelf : new int[] {-1, 6, MIN, MAX}) {
            due("shelf " + shelf, x.keep(shelf, 0), -1);
            due("shelf " + shelf, x.keep(shelf, -1), -1);
        }
        x.row(0, 0, 1);
        for (int body : new int[] {-2, 1, 49, 50, MIN, MAX}) {
            due("body " + body, x.keep(0, body), -1);
        }
        due("the ROW stays", x.element(0, 0), 0);
    }

    private static void keepAtTheEdges() {
        TallerAhead x = head(0);
        x.body(7);
        for (int shelf : new int[] {0, 5}) {
            due("the first", x.keep(shelf, 0), 1);
            due("its kind", x.taken(shelf, 0), 0);
            due("the last", x.keep(shelf, 1), 1);
            due("its kind", x.taken(shelf, 0), 7);
            due("nothing", x.keep(shelf, -1), 1);
            due("nothing", x.taken(shelf, 0), -11);
            due("nothing in place of nothing", x.keep(shelf, -1), 1);
            x.row(shelf, 0, 3);
            due("a HEAD in place of a ROW", x.keep(shelf, 0), 1);
            due("no ROW", x.put(shelf, 0, 1), -12);
            x.row(shelf, 0, 3);
            due("a ROW in place of a HEAD", x.element(shelf, 0), 0);
            due("nothing in place of a ROW", x.keep(shelf, -1), 1);
            due("no ROW", x.put(shelf, 0, 1), -11);
        }
    }

    private static void nothingAtFirst() {
        TallerAhead x = new TallerAhead();
        for (int shelf = 0; shelf < 6; shelf++) {
            due("taken", x.taken(shelf, 0), -11);
            due("put", x.put(shelf, 0, 1), -11);
            due("element", x.element(shelf, 0), Long.MIN_VALUE);
            due("shift", x.shift(shelf, 0, shelf, 0, 0), -11);
            due("book", x.book(shelf, 0), -11);
            due("people", x.people(shelf, 0, 1), 0);
        }
    }

    private static void rowRefused() {
        TallerAhead x = new TallerAhead();
        for (int shelf : new int[] {-1, 6, MIN, MAX}) {
            due("shelf " + shelf, x.row(shelf, 0, 1), -1);
            due("BAD ahead of -14", x.row(shelf, 0, -1), -1);
        }
        for (int sort : new int[] {-1, 5, 6, MIN, MAX}) {
            due("sort " + sort, x.row(0, sort, 1), -1);
            due("BAD ahead of -14", x.row(0, sort, -1), -1);
        }
        for (int sort = 0; sort < 5; sort++) {
            for (int n : new int[] {61, 62, MAX}) {
                due("n " + n, x.row(0, sort, n), -1);
            }
        }
        due("nothing is there", x.taken(0, 0), -11);
    }

    private static void sizeBelowNought() {
        TallerAhead x = new TallerAhead();
        for (int sort = 0; sort < 5; sort++) {
            for (int n : new int[] {-1, -2, MIN}) {
                due("n " + n, x.row(0, sort, n), -14);
            }
        }
        due("nothing is there", x.taken(0, 0), -11);
        Checks.fill(x, 1, 5, 6);
        due("in place of a ROW", x.row(1, 0, -1), -14);
        Checks.rowIs(x, 1, 5, 6);
    }

    private static void shortestAndLongest() {
        TallerAhead x = new TallerAhead();
        for (int sort = 0; sort < 5; sort++) {
            due("of none", x.row(sort, sort, 0), 1);
            due("no first", x.put(sort, 0, 1), -13);
            due("no first", x.element(sort, 0), Long.MIN_VALUE);
            due("of one", x.row(sort, sort, 1), 1);
            due("the first", x.put(sort, 0, 1), 1);
            due("no second", x.put(sort, 1, 1), -13);
            due("of 60", x.row(sort, sort, 60), 1);
            due("the last", x.put(sort, 59, 1), 1);
            due("the last", x.element(sort, 59), 1);
            due("none behind", x.put(sort, 60, 1), -13);
        }
    }

    private static void noughtAtFirst() {
        TallerAhead x = new TallerAhead();
        for (int sort = 0; sort < 5; sort++) {
            x.row(0, sort, 60);
            for (int i = 0; i < 60; i++) {
                due("at first", x.element(0, i), 0);
                x.put(0, i, 1);
            }
        }
        x.row(0, 0, 2);
        Checks.rowIs(x, 0, 0, 0);
        x.put(0, 1, 7);
        x.row(0, 0, 2);
        Checks.rowIs(x, 0, 0, 0);
    }

    private static void puts(int sort, long... toldAndKept) {
        TallerAhead x = new TallerAhead();
        x.row(0, sort, 3);
        for (int k = 0; k < toldAndKept.length; k += 2) {
            due("put " + toldAndKept[k], x.put(0, 1, toldAndKept[k]), 1);
            due("element of sort " + sort + ", " + toldAndKept[k] + " put in", x.element(0, 1), toldAndKept[k + 1]);
        }
        due("the one ahead stays", x.element(0, 0), 0);
        due("the one behind stays", x.element(0, 2), 0);
    }

    private static void lowestBits() {
        puts(0, 127, 127, 128, -128, 255, -1, 256, 0, -128, -128, -129, 127, 1L << 32, 0, Long.MIN_VALUE, 0, Long.MAX_VALUE, -1);
        puts(1, 32767, 32767, 32768, -32768, 65535, -1, 65536, 0, -32769, 32767, Long.MIN_VALUE, 0, Long.MAX_VALUE, -1);
        puts(2, MAX, MAX, MAX + 1L, MIN, 0xFFFFFFFFL, -1, 1L << 32, 0, MIN - 1L, MAX, Long.MIN_VALUE, 0, Long.MAX_VALUE, -1);
        puts(3, MAX + 1L, MAX + 1L, Long.MAX_VALUE, Long.MAX_VALUE, Long.MIN_VALUE, Long.MIN_VALUE, -1, -1);
    }

    private static void booleans() {
        puts(4, 1, 1, 0, 0, 2, 1, -1, 1, 256, 1, 1L << 32, 1, Long.MIN_VALUE, 1, Long.MAX_VALUE, 1, 0, 0);
    }

    private static void putRefused() {
        TallerAhead x = head(0);
        x.keep(1, 0);
        Checks.fill(x, 2, 5, 6);
        for (int i : new int[] {-1, 0, 2, MIN, MAX}) {
            for (int shelf : new int[] {-1, 6, MIN, MAX}) {
                due("shelf " + shelf, x.put(shelf, i, 1), -1);
            }
            due("nothing", x.put(0, i, 1), -11);
            due("a HEAD", x.put(1, i, 1), -12);
            if (i != 0) {
                due("place " + i, x.put(2, i, 1), -13);
            }
        }
        Checks.rowIs(x, 2, 5, 6);
        due("the first", x.put(2, 0, 7), 1);
        due("the last", x.put(2, 1, 8), 1);
        Checks.rowIs(x, 2, 7, 8);
    }

    private static void elementRefused() {
        TallerAhead x = head(0);
        x.keep(1, 0);
        Checks.fill(x, 2, 5, 6);
        for (int i : new int[] {-1, 0, 2, 59, 60, MIN, MAX}) {
            for (int shelf : new int[] {-1, 0, 1, 6, MIN, MAX}) {
                due("shelf " + shelf, x.element(shelf, i), Long.MIN_VALUE);
            }
            if (i != 0) {
                due("place " + i, x.element(2, i), Long.MIN_VALUE);
            }
        }
        due("the first", x.element(2, 0), 5);
        due("the last", x.element(2, 1), 6);
    }

    private static void shiftOfNoShelf() {
        TallerAhead x = head(0);
        x.keep(1, 0);
        Checks.fill(x, 2, 5, 6);
        for (int shelf : new int[] {-1, 6, MIN, MAX}) {
            for (int other = 0; other < 3; other++) {
                due("from " + shelf, x.shift(shelf, 0, other, 0, 1), -1);
                due("to " + shelf, x.shift(other, 0, shelf, 0, 1), -1);
                due("BAD ahead of -13", x.shift(shelf, -1, other, -1, -1), -1);
            }
        }
    }

    private static void shiftOfNothing() {
        TallerAhead x = head(0);
        x.keep(1, 0);
        Checks.fill(x, 2, 5, 6);
        for (int other : new int[] {0, 1, 2}) {
            due("from nothing to " + other, x.shift(3, 0, other, 0, 1), -11);
            due("to nothing from " + other, x.shift(other, 0, 3, 0, 1), -11);
            due("-11 ahead of -13", x.shift(other, -1, 3, 9, -1), -11);
        }
        due("nothing to itself", x.shift(3, 0, 3, 0, 0), -11);
    }

    private static void shiftOfOtherKinds() {
        TallerAhead x = head(0);
        x.keep(0, 0);
        for (int sort = 0; sort < 5; sort++) {
            x.row(1 + sort, sort, 2);
        }
        for (int shelf = 0; shelf < 6; shelf++) {
            for (int other = 0; other < 6; other++) {
                boolean fits = shelf == other && shelf > 0;
                due("from " + shelf + " to " + other, x.shift(shelf, 0, other, 0, 1), fits ? 1 : -12);
                due("none from " + shelf + " to " + other, x.shift(shelf, 0, other, 0, 0), fits ? 0 : -12);
                due("-12 ahead of -13", x.shift(shelf, 0, other, 0, 3), fits ? -13 : -12);
            }
        }
    }

    private static void shiftOfNoPlace() {
        TallerAhead x = new TallerAhead();
        Checks.fill(x, 0, 1, 2, 3);
        Checks.fill(x, 1, 4, 5, 6, 7);
        int[][] places = {
            {-1, 0, 1}, {0, -1, 1}, {-1, -1, 1}, {3, 0, 1}, {0, 4, 1}, {4, 0, 0}, {0, 5, 0}, {-1, 0, 0}, {0, -1, 0}, {0, 0, 4}, {1, 0, 3},
            {0, 2, 3}, {2, 0, 2}, {0, 3, 2}, {0, 0, 5}, {0, 0, -1}, {3, 4, -1}, {0, 0, MIN}, {MAX, 0, 1}, {0, MAX, 1}, {MIN, 0, 1},
            {0, MIN, 1}, {0, 0, MAX}, {1, 1, MAX}, {MAX, MAX, MAX}, {MIN, MIN, MIN}, {MAX, 0, MIN}, {2, 0, MAX},
        };
        for (int[] told : places) {
            due("shift " + java.util.Arrays.toString(told), x.shift(0, told[0], 1, told[1], told[2]), -13);
        }
        Checks.rowIs(x, 0, 1, 2, 3);
        Checks.rowIs(x, 1, 4, 5, 6, 7);
    }

    private static void shiftNoneAndAll() {
        TallerAhead x = new TallerAhead();
        Checks.fill(x, 0, 1, 2, 3);
        Checks.fill(x, 5, 4, 5, 6, 7);
        due("none", x.shift(0, 0, 5, 0, 0), 0);
        due("none behind the last", x.shift(0, 3, 5, 4, 0), 0);
        Checks.rowIs(x, 5, 4, 5, 6, 7);
        due("the last to the last", x.shift(0, 2, 5, 3, 1), 1);
        Checks.rowIs(x, 5, 4, 5, 6, 3);
        due("all", x.shift(0, 0, 5, 0, 3), 3);
        Checks.rowIs(x, 5, 1, 2, 3, 3);
        due("all to the end", x.shift(0, 0, 5, 1, 3), 3);
        Checks.rowIs(x, 5, 1, 1, 2, 3);
        Checks.rowIs(x, 0, 1, 2, 3);
        x.row(1, 3, 60);
        x.row(2, 3, 60);
        x.put(1, 59, Long.MIN_VALUE);
        due("60", x.shift(1, 0, 2, 0, 60), 60);
        due("61", x.shift(1, 0, 2, 0, 61), -13);
        due("the last of 60 longs", x.element(2, 59), Long.MIN_VALUE);
        x.row(3, 0, 0);
        due("none of none", x.shift(3, 0, 3, 0, 0), 0);
        due("one of none", x.shift(3, 0, 3, 0, 1), -13);
    }

    private static void shiftOntoItself() {
        TallerAhead x = new TallerAhead();
        Checks.fill(x, 0, 1, 2, 3, 4, 5);
        due("one on", x.shift(0, 0, 0, 1, 4), 4);
        Checks.rowIs(x, 0, 1, 1, 2, 3, 4);
        due("one back", x.shift(0, 1, 0, 0, 4), 4);
        Checks.rowIs(x, 0, 1, 2, 3, 4, 4);
        due("all where they are", x.shift(0, 0, 0, 0, 5), 5);
        Checks.rowIs(x, 0, 1, 2, 3, 4, 4);
        due("one too many", x.shift(0, 0, 0, 1, 5), -13);
        Checks.rowIs(x, 0, 1, 2, 3, 4, 4);
    }

    private static void takenRefused() {
        TallerAhead x = head(0);
        x.keep(1, 0);
        x.row(2, 0, 1);
        for (int k : new int[] {-1, 8, MIN, MAX}) {
            for (int shelf = 0; shelf < 3; shelf++) {
                due("k " + k + " ahead of what is on " + shelf, x.taken(shelf, k), -1);
            }
        }
        for (int shelf : new int[] {-1, 6, MIN, MAX}) {
            due("shelf " + shelf, x.taken(shelf, 0), -1);
        }
        due("a HEAD", x.taken(1, 0), 0);
    }

    private static void takenOfNoHead() {
        TallerAhead x = new TallerAhead();
        for (int k = 0; k < 8; k++) {
            due("nothing", x.taken(0, k), -11);
            for (int sort = 0; sort < 5; sort++) {
                x.row(1, sort, 1);
                due("a ROW of sort " + sort, x.taken(1, k), -12);
            }
        }
    }

    private static void takenFor() {
        int[][] above = {{0}, {1, 0}, {2, 0}, {3, 2, 0}, {4, 1, 0}, {5, 3, 2, 0}, {6, 0}, {7, 4, 1, 0}};
        for (int kind = 0; kind < 8; kind++) {
            TallerAhead x = head(kind);
            x.keep(5, 0);
            for (int k = 0; k < 8; k++) {
                int want = -12;
                for (int one : above[kind]) {
                    want = one == k ? kind : want;
                }
                due("kind " + kind + " for " + k, x.taken(5, k), want);
            }
        }
    }

    private static void countRefused() {
        TallerAhead x = Checks.nine();
        for (int what : new int[] {-1, 7, 8, MIN, MAX}) {
            due("what " + what, x.count(what), -1);
        }
    }

    private static void countsAtTheEdges() {
        TallerAhead x = Checks.nine();
        due("PEOPLE", x.count(0), 9);
        due("in THE QUEUE", x.count(1), 9);
        x.serve();
        due("PEOPLE stay", x.count(0), 9);
        due("in THE QUEUE", x.count(1), 8);
        due("kept for YESTERDAY", x.count(2), 1);
        for (int k = 0; k < 7; k++) {
            x.serve();
        }
        x.serve();
        due("in THE QUEUE", x.count(1), 0);
        due("kept for YESTERDAY", x.count(2), 9);
        x.feed(0);
        due("on THE TAPE", x.count(3), 1);
        x.law();
        due("on THE TAPE", x.count(3), 0);
        x.mend(0, 91);
        due("may be UNDONE", x.count(4), 1);
        x.undo();
        due("may be UNDONE", x.count(4), 0);
        x.redo();
        due("may be UNDONE", x.count(4), 1);
        due("BODIES", x.count(5), 0);
        x.body(7);
        due("BODIES", x.count(5), 1);
        x.act(0, 3, 0);
        due("ran", x.count(6), 14);
        x.act(0, 0, 0);
        due("ran", x.count(6), 2);
    }
}
