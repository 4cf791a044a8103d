/** The boundary cases of promises 23 to 33, of section 3, of THE IMAGE and of what is UNDONE: a test for each sentence. */
public final class ThoughtEdgesTest {
    private static final int MIN = Checks.MIN, MAX = Checks.MAX;

    public static void main(String[] args) {
        Checks.edge("calm: the PLACES (what 0), DISQUIET (1). BAD", ThoughtEdgesTest::calmOfWhat);
        Checks.edge("CALM: if it is less than now", ThoughtEdgesTest::notLessThanNow);
        Checks.edge("CALM: (by PLACES, of like ones the first)", ThoughtEdgesTest::firstOfLikeOnes);
        Checks.edge("CALM: 10 times the lesser PLACE, and the other; DISQUIET then", ThoughtEdgesTest::firstAndLastTwo);
        Checks.edge("where: BAD", ThoughtEdgesTest::whereRefused);
        Checks.edge("where: STATE: it is in", ThoughtEdgesTest::whereOfOneWhoIsIn);
        Checks.edge("WHERE: the PLACE (0 to how many there are)", ThoughtEdgesTest::firstAndLastPlace);
        Checks.edge("WHERE: (of like ones the least)", ThoughtEdgesTest::leastOfLikePlaces);
        Checks.edge("where: each by its own PLACE", ThoughtEdgesTest::eachByItsOwnPlace);
        Checks.edge("growth: BAD; STATE: it is not in", ThoughtEdgesTest::growthRefused);
        Checks.edge("GROW: the least growth (0 .. 60; ...) by which its NUMBER is 0; NOT", ThoughtEdgesTest::leastAndMostGrowth);
        Checks.edge("GROW: (heights of others may be met)", ThoughtEdgesTest::meetsOthers);
        Checks.edge("far: BAD, -11, -12 (no ROW of bytes)", ThoughtEdgesTest::farRefused);
        Checks.edge("FAR: (STATE: not just those in THE QUEUE, each once)", ThoughtEdgesTest::notJustThose);
        Checks.edge("FAR: how few changes of two side by side", ThoughtEdgesTest::leastAndMostChanges);
        Checks.edge("SORTED: how few into one by HEIGHTS", ThoughtEdgesTest::leastAndMostToSort);
        Checks.edge("right: who may be first (k -2), how many (k -1), who is k-th. BAD", ThoughtEdgesTest::rightOfWhat);
        Checks.edge("SERVED by RIGHT: nobody taller is left whose NUMBER is less", ThoughtEdgesTest::lessAndTaller);
        Checks.edge("SERVED by RIGHT: (bits of people); how many orders there are of all", ThoughtEdgesTest::allAndNobody);
        Checks.edge("mixed: n times (1 .. 50)", ThoughtEdgesTest::howOftenMixed);
        Checks.edge("mixed: the sum (person -2), how often less (-1), how often a PERSON is first. BAD", ThoughtEdgesTest::mixedForWhom);
        Checks.edge("MIXED: (an int; SEED at first)", ThoughtEdgesTest::drawsWrap);
        Checks.edge("MIXED: for i from the last PLACE to 1", ThoughtEdgesTest::nothingToMix);
        Checks.edge("image: AN IMAGE is kept: how many are in THE QUEUE", ThoughtEdgesTest::imageAtTheEdges);
        Checks.edge("back: STATE: there is none", ThoughtEdgesTest::noImage);
        Checks.edge("back: (nothing is kept for YESTERDAY by it)", ThoughtEdgesTest::nothingKeptByBack);
        Checks.edge("undo: how many may still be. STATE: none", ThoughtEdgesTest::nothingToUndo);
        Checks.edge("undo: STATE: ... the HEIGHT is another one's", ThoughtEdgesTest::undoToAnothers);
        Checks.edge("redo: STATE likewise", ThoughtEdgesTest::nothingToRedo);
        Checks.edge("redo: unless the HEIGHT is another one's by then: STATE", ThoughtEdgesTest::redoToAnothers);
        Checks.edge("DONE AGAIN (as long as no other came behind)", ThoughtEdgesTest::anotherCameBehind);
        Checks.edge("(telling the same number is none)", ThoughtEdgesTest::theSameIsNone);
        Checks.edge("40 at most are kept", ThoughtEdgesTest::fortyAtMost);
        Checks.end("sentences on what is thought hold at their edges");
    }

    private static void due(String call, long got, long want) {
        Checks.due(call, got, want);
    }

    private static void calmOfWhat() {
        TallerAhead x = Checks.five();
        for (int what : new int[] {-1, 2, MIN, MAX}) {
            due("what " + what, x.calm(what), -1);
            due("BAD ahead of NOT", new TallerAhead().calm(what), -1);
        }
        due("places", x.calm(0), 4);
        due("disquiet", x.calm(1), 1);
    }

    private static void notLessThanNow() {
        for (TallerAhead x : new TallerAhead[] {new TallerAhead(), Checks.street(50), Checks.street(10, 20), Checks.street(1, 2, 3, 4)}) {
            due("places", x.calm(0), -2);
            due("disquiet", x.calm(1), -2);
        }
        TallerAhead x = Checks.nine();
        Checks.tell(x, "1");
        due("just as much", x.calm(0), -2);
        due("just as much", x.calm(1), -2);
        Checks.tell(x, "g=8&p=0");
        due("less by one", x.calm(0), 1);
        due("nought then", x.calm(1), 0);
        TallerAhead y = Checks.street(20, 10);
        due("two", y.calm(0), 1);
        due("two", y.calm(1), 0);
    }

    private static void firstOfLikeOnes() {
        TallerAhead x = Checks.street(30, 10, 20);
        due("0 with 1, 0 with 2", x.calm(0), 1);
        due("then", x.calm(1), 1);
        TallerAhead y = Checks.street(20, 10, 40, 30, 60, 50);
        due("0 with 1, 2 with 3, 4 with 5", y.calm(0), 1);
        y.swap(0);
        due("2 with 3, 4 with 5", y.calm(0), 23);
        y.swap(2);
        due("4 with 5", y.calm(0), 45);
        y.swap(4);
        due("none", y.calm(0), -2);
        TallerAhead z = Checks.street(20, 30, 10);
        due("0 with 2, 1 with 2", z.calm(0), 2);
        due("then", z.calm(1), 1);
    }

    private static void firstAndLastTwo() {
        TallerAhead x = Checks.nine();
        due("0 with 8", x.calm(0), 8);
        due("then", x.calm(1), 21);
        TallerAhead y = Checks.street(1, 2, 3, 4, 5, 6, 7, 9, 8);
        due("7 with 8", y.calm(0), 78);
        due("then", y.calm(1), 0);
        TallerAhead z = Checks.street(1, 3, 2);
        due("1 with 2", z.calm(0), 12);
        due("then", z.calm(1), 0);
        due("only in thought", z.count(2), 0);
        Checks.queueIs(z, 0, 1, 2);
    }

    private static void whereRefused() {
        TallerAhead x = Checks.five();
        x.leave(2);
        for (int person : new int[] {-1, 5, 9, MIN, MAX}) {
            for (int what = 0; what < 4; what++) {
                due("person " + person, x.where(person, what), -1);
            }
        }
        for (int what : new int[] {-1, 4, MIN, MAX}) {
            due("what " + what, x.where(2, what), -1);
            due("what ahead of STATE", x.where(1, what), -1);
        }
        due("nobody yet", new TallerAhead().where(0, 0), -1);
    }

    private static void whereOfOneWhoIsIn() {
        TallerAhead x = Checks.five();
        for (int person = 0; person < 5; person++) {
            for (int what = 0; what < 4; what++) {
                due("person " + person + " at its PLACE", x.where(person, what), -5);
            }
        }
        x.leave(0);
        due("one who is out", x.where(0, 0) >= 0 ? 1 : 0, 1);
        due("the new front", x.where(1, 0), -5);
    }

    private static void firstAndLastPlace() {
        TallerAhead x = Checks.nine();
        x.leave(0);
        due("the tallest at the end", x.where(0, 0), 8);
        due("then", x.where(0, 2), 28);
        due("at the front for its own", x.where(0, 1), 0);
        due("then", x.where(0, 3), 0);
        x.enter(0, 0);
        x.leave(8);
        due("the smallest at the front", x.where(8, 0), 0);
        due("then", x.where(8, 2), 28);
        TallerAhead y = Checks.street(50);
        y.serve();
        for (int what = 0; what < 4; what++) {
            due("into an empty queue", y.where(0, what), 0);
        }
        Checks.tell(y, "1");
        for (int what = 0; what < 4; what++) {
            due("into an empty queue, by law", y.where(0, what), 0);
        }
    }

    private static void leastOfLikePlaces() {
        TallerAhead x = Checks.nine();
        x.leave(4);
        Checks.tell(x, "1");
        due("all alike", x.where(4, 0), 0);
        due("then", x.where(4, 2), 36);
        Checks.tell(x, "0");
        due("all nought", x.where(4, 0), 0);
        due("then", x.where(4, 2), 0);
        Checks.tell(x, "p=4&q>4");
        due("behind the last one who minds", x.where(4, 0), 8);
        Checks.tell(x, "p=4&q<3");
        due("behind the third", x.where(4, 0), 3);
        TallerAhead y = Checks.street(50, 10, 60, 30);
        y.leave(3);
        // DISQUIET 2, 3, 2, 3 at the PLACES 0 to 3.
        due("of 0, 2 the least", y.where(3, 0), 0);
        due("then", y.where(3, 2), 2);
    }

    private static void eachByItsOwnPlace() {
        TallerAhead x = Checks.nine();
        x.leave(0);
        due("disquiet at the PLACE for least DISQUIET", x.where(0, 2), 28);
        due("number at the PLACE for its least NUMBER", x.where(0, 3), 0);
        x.enter(0, 8);
        due("disquiet indeed", x.disquiet(0), 28);
        x.leave(8);
        Checks.tell(x, "p=0");
        due("who minds nobody else", x.where(0, 0), 8);
        due("nought at the end", x.where(0, 2), 0);
        due("its own at the front", x.where(0, 1), 0);
        Checks.tell(x, "q=0&p=1|p=0");
        due("one at the end, 8 at the front", x.where(0, 0), 8);
        due("one at the end", x.where(0, 2), 1);
        due("none ahead of the front", x.where(0, 3), 0);
    }

    private static void growthRefused() {
        TallerAhead x = Checks.five();
        for (int person : new int[] {-1, 5, 9, MIN, MAX}) {
            due("person " + person, x.growth(person), -1);
        }
        x.leave(2);
        due("out", x.growth(2), -5);
        x.serve();
        due("served", x.growth(0), -5);
        due("nobody yet", new TallerAhead().growth(0), -1);
    }

    private static void leastAndMostGrowth() {
        TallerAhead x = Checks.street(70, 10, 9, 69, 71);
        due("the front", x.growth(0), 0);
        due("by 60", x.growth(1), 60);
        due("61 would be wanted", x.growth(2), -2);
        due("by 1", x.growth(3), 1);
        due("the tallest", x.growth(4), 0);
        due("only in thought", x.count(2), 0);
        Checks.tell(x, "b<70");
        due("by 60, by law", x.growth(1), 60);
        due("61 by law", x.growth(2), -2);
        due("the front, whatever the law", x.growth(0), 0);
        Checks.tell(x, "!(b=33|b=25)");
        due("the least of two", x.growth(1), 15);
        due("the least of two", x.growth(2), 16);
        due("by none", x.growth(4), -2);
        Checks.tell(x, "b=10");
        due("by 1, by law", x.growth(1), 1);
        Checks.tell(x, "1");
        due("by none", x.growth(1), -2);
        due("nobody is ahead of the front", x.growth(0), 0);
        Checks.tell(x, "g=2&p=1&b<80");
        due("two PLACES behind the one who counts", x.growth(3), 11);
        due("one PLACE behind him", x.growth(2), 0);
        due("three PLACES behind him", x.growth(4), 0);
        Checks.tell(x, "q=2&g=1&a<b+5|q=2&p=0&g=2&b<20");
        due("both ahead are asked", x.growth(2), -2);
        Checks.tell(x, "q=2&g=1&a>b+5|q=2&p=0&g=2&b<20");
        due("both ahead are asked", x.growth(2), 11);
    }

    private static void meetsOthers() {
        TallerAhead x = Checks.street(50, 40, 45, 30);
        due("met", x.growth(1), 10);
        due("past one, met", x.growth(3), 20);
        due("the height stays", x.of(3, 0), 30);
        TallerAhead y = Checks.street(99, 90, 39);
        due("met at 99", y.growth(1), 9);
        due("met at 99", y.growth(2), 60);
        Checks.tell(y, "b<110");
        due("past 99 in thought", y.growth(1), 20);
    }

    private static void farRefused() {
        TallerAhead x = Checks.five();
        Checks.wantsBytes(x, TallerAhead::far);
        TallerAhead y = new TallerAhead();
        Checks.wantsBytes(y, TallerAhead::far);
    }

    private static void notJustThose() {
        TallerAhead x = Checks.five();
        int[][] rows = {
            {}, {0, 1, 2, 3}, {0, 1, 2, 3, 4, 4}, {0, 1, 2, 3, 4, 5}, {0, 1, 2, 3, 4, -1}, {0, 0, 1, 2, 3}, {0, 1, 2, 3, 3}, {4, 3, 2, 1, 4},
            {0, 1, 2, 3, 5}, {5, 1, 2, 3, 4}, {-1, 1, 2, 3, 4}, {0, 1, 2, 3, -2}, {0, 1, 2, 3, 127}, {-128, 1, 2, 3, 4},
        };
        for (int[] row : rows) {
            Checks.fill(x, 0, row);
            due(java.util.Arrays.toString(row), x.far(0), -5);
        }
        x.leave(4);
        Checks.fill(x, 0, 0, 1, 2, 3, 4);
        due("one who is out", x.far(0), -5);
        Checks.fill(x, 0, 0, 1, 2, 4);
        due("one who is out in place of one who is in", x.far(0), -5);
        Checks.fill(x, 0, 0, 1, 2, 3);
        due("just those", x.far(0), 0);
        TallerAhead y = new TallerAhead();
        Checks.fill(y, 0, 0);
        due("somebody for nobody", y.far(0), -5);
        y.row(0, 0, 0);
        due("nobody", y.far(0), 0);
    }

    private static void leastAndMostChanges() {
        TallerAhead x = Checks.nine();
        Checks.fill(x, 0, 0, 1, 2, 3, 4, 5, 6, 7, 8);
        due("as it is", x.far(0), 0);
        Checks.fill(x, 0, 8, 7, 6, 5, 4, 3, 2, 1, 0);
        due("the other way round", x.far(0), 36);
        Checks.fill(x, 0, 0, 1, 2, 3, 4, 5, 6, 8, 7);
        due("the last two", x.far(0), 1);
        Checks.fill(x, 0, 1, 0, 2, 3, 4, 5, 6, 7, 8);
        due("the first two", x.far(0), 1);
        Checks.fill(x, 0, 8, 0, 1, 2, 3, 4, 5, 6, 7);
        due("the last one to the front", x.far(0), 8);
        TallerAhead y = Checks.street(50);
        Checks.fill(y, 0, 0);
        due("one alone", y.far(0), 0);
    }

    private static void leastAndMostToSort() {
        due("nobody", new TallerAhead().sorted(), 0);
        due("one alone", Checks.street(50).sorted(), 0);
        due("the other way round", Checks.nine().sorted(), 36);
        due("in order", Checks.street(1, 2, 3, 4, 5, 6, 7, 8, 99).sorted(), 0);
        due("two", Checks.street(2, 1).sorted(), 1);
        TallerAhead x = Checks.nine();
        Checks.tell(x, "0");
        due("whatever the law", x.sorted(), 36);
        x.serve();
        due("of those who are in now", x.sorted(), 28);
    }

    private static void rightOfWhat() {
        TallerAhead x = Checks.five();
        for (int k : new int[] {-3, 5, 6, 9, MIN, MAX}) {
            due("k " + k, x.right(k), -1);
        }
        due("bits", x.right(-2), 9);
        due("orders", x.right(-1), 4);
        due("the first", x.right(0), 0);
        due("the last", x.right(4), 4);
        x.leave(0);
        due("no fifth any longer", x.right(4), -1);
        due("the last", x.right(3), 4);
    }

    private static void lessAndTaller() {
        // NUMBERS 0, 0, 1: who has a like NUMBER, or is smaller, bars nobody.
        TallerAhead x = Checks.street(10, 30, 20);
        due("who may be first", x.right(-2), 3);
        due("orders", x.right(-1), 3);
        due("first", x.right(0), 0);
        due("second", x.right(1), 1);
        due("third", x.right(2), 2);
        Checks.tell(x, "q=1");
        // NUMBERS 0, 1, 0: the tallest has the greatest.
        due("none bars", x.right(-2), 7);
        due("orders", x.right(-1), 6);
        Checks.tell(x, "p=1&q=2|p=0&q=2");
        // NUMBERS 0, 0, 2.
        due("less by two bars too", x.right(-2), 3);
        TallerAhead y = Checks.street(90, 10, 20);
        Checks.tell(y, "p=0&q=1");
        // NUMBERS 0, 1, 0: two taller ones bar the second.
        due("who may be first", y.right(-2), 5);
        due("orders", y.right(-1), 2);
        due("second by numbers", y.right(1), 2);
        due("last", y.right(2), 1);
    }

    private static void allAndNobody() {
        TallerAhead x = new TallerAhead();
        due("nobody may be first", x.right(-2), 0);
        due("one order of nobody", x.right(-1), 1);
        due("no first", x.right(0), -1);
        TallerAhead y = Checks.street(50);
        due("one alone", y.right(-2), 1);
        due("one order", y.right(-1), 1);
        due("first", y.right(0), 0);
        due("no second", y.right(1), -1);
        TallerAhead z = Checks.street(1, 2, 3, 4, 5, 6, 7, 8, 9);
        due("all may", z.right(-2), 511);
        due("all orders", z.right(-1), 362880);
        due("the last", z.right(8), 8);
        due("no tenth", z.right(9), -1);
        TallerAhead w = Checks.nine();
        due("one may", w.right(-2), 1);
        due("one order", w.right(-1), 1);
        for (int k = 0; k < 9; k++) {
            due("k-th", w.right(k), k);
        }
        for (int k = 0; k < 8; k++) {
            w.serve();
        }
        due("the bit of the last", w.right(-2), 256);
    }

    private static void howOftenMixed() {
        TallerAhead x = Checks.five();
        for (int n : new int[] {0, -1, 51, 52, MIN, MAX}) {
            due("n " + n, x.mixed(0, n, -2), -1);
        }
        due("once", x.mixed(0, 1, -2), 2);
        due("twice", x.mixed(0, 2, -2), 5);
        due("50 times", x.mixed(0, 50, -2), 228);
        due("less, once", x.mixed(0, 1, -1), 1);
        due("less, 50 times", x.mixed(0, 50, -1), 32);
        Checks.queueIs(x, 0, 1, 2, 3, 4);
        due("no deed", x.count(2), 0);
    }

    private static void mixedForWhom() {
        TallerAhead x = Checks.five();
        for (int person : new int[] {-3, -4, 5, 6, 9, MIN, MAX}) {
            due("person " + person, x.mixed(0, 1, person), -1);
        }
        int[] first = {12, 12, 7, 9, 10};
        for (int person = 0; person < 5; person++) {
            due("person " + person + " first", x.mixed(0, 50, person), first[person]);
        }
        x.leave(4);
        due("one who is out", x.mixed(0, 50, 4), 0);
        due("nobody yet", new TallerAhead().mixed(0, 1, 0), -1);
    }

    private static void drawsWrap() {
        TallerAhead x = Checks.five();
        int[][] due = {{-1, 257, 27, 13}, {MIN, 262, 29, 12}, {MAX, 241, 32, 14}, {1, 225, 32, 13}};
        for (int[] told : due) {
            due("sum by " + told[0], x.mixed(told[0], 50, -2), told[1]);
            due("less by " + told[0], x.mixed(told[0], 50, -1), told[2]);
            due("first by " + told[0], x.mixed(told[0], 50, 4), told[3]);
        }
        TallerAhead y = Checks.nine();
        due("nine, sum", y.mixed(MIN, 50, -2), 923);
        due("nine, less", y.mixed(MIN, 50, -1), 50);
        due("nine, first", y.mixed(MIN, 50, 8), 2);
        due("nine, sum", y.mixed(MAX, 50, -2), 905);
    }

    private static void nothingToMix() {
        TallerAhead x = Checks.street(20, 10);
        due("two: one draw, they change", x.mixed(0, 1, 1), 1);
        due("then", x.mixed(0, 1, -2), 0);
        due("two: three draws of four", x.mixed(0, 4, 1), 3);
        due("two: none of four", x.mixed(3, 4, 1), 0);
        x.leave(0);
        due("one alone is first each time", x.mixed(0, 50, 1), 50);
        due("sum", x.mixed(0, 50, -2), 0);
        due("never less", x.mixed(0, 50, -1), 0);
        x.leave(0);
        due("nobody, sum", x.mixed(0, 50, -2), 0);
        due("nobody, less", x.mixed(0, 50, -1), 0);
        due("nobody, first", x.mixed(0, 50, 0), 0);
        due("nobody, n", x.mixed(0, 51, -2), -1);
    }

    private static void imageAtTheEdges() {
        TallerAhead x = new TallerAhead();
        due("nobody", x.image(), 0);
        for (int k = 0; k < 9; k++) {
            x.person(10 * k + 1);
        }
        due("back to nobody", x.back(), 0);
        Checks.queueIs(x);
        due("PEOPLE stay", x.count(0), 9);
        for (int k = 0; k < 9; k++) {
            x.enter(k, k);
        }
        due("nine", x.image(), 9);
        x.swap(7);
        x.serve();
        due("back to nine", x.back(), 9);
        Checks.queueIs(x, 0, 1, 2, 3, 4, 5, 6, 7, 8);
        x.serve();
        due("the latest is kept", x.image(), 8);
        x.enter(0, 0);
        due("back to the latest", x.back(), 8);
        due("as often as is wanted", x.back(), 8);
        Checks.queueIs(x, 1, 2, 3, 4, 5, 6, 7, 8);
    }

    private static void noImage() {
        TallerAhead x = Checks.five();
        due("none", x.back(), -5);
        Checks.queueIs(x, 0, 1, 2, 3, 4);
        x.serve();
        x.again(1);
        due("none still", x.back(), -5);
    }

    private static void nothingKeptByBack() {
        TallerAhead x = Checks.five();
        x.image();
        due("image keeps none", x.count(2), 0);
        x.serve();
        x.back();
        due("the one deed", x.count(2), 1);
        due("ahead of it", x.was(1, 0), 0);
        due("changed by none", x.of(1, 3), 1);
        x.again(1);
        due("none", x.count(2), 0);
        due("image stays", x.back(), 5);
    }

    private static void nothingToUndo() {
        TallerAhead x = Checks.five();
        due("none", x.undo(), -5);
        x.mend(0, 41);
        x.mend(1, 21);
        x.mend(0, 42);
        due("two more", x.undo(), 2);
        due("one more", x.undo(), 1);
        due("none more", x.undo(), 0);
        due("none", x.undo(), -5);
        due("heights", x.of(0, 0) + 100 * x.of(1, 0), 2040);
        due("how many may be", x.count(4), 0);
        x.grow(0, 1);
        due("growing is not undone", x.undo(), -5);
    }

    private static void undoToAnothers() {
        TallerAhead x = Checks.five();
        x.mend(0, 99);
        x.person(40);
        due("of one in THE QUEUE", x.undo(), -5);
        due("it stays", x.count(4), 1);
        due("its height stays", x.of(0, 0), 99);
        due("none done again", x.redo(), -5);
        x.leave(5);
        due("of one who is out", x.undo(), -5);
        x.grow(5, 1);
        due("of nobody any longer", x.undo(), 0);
        due("height", x.of(0, 0), 40);
        x.mend(2, 31);
        x.mend(2, 32);
        x.mend(1, 31);
        due("one's own by then", x.undo(), 2);
        due("to 31", x.undo(), 1);
        due("to 30", x.undo(), 0);
        x.mend(2, 33);
        x.grow(2, 20);
        due("whatever it has grown to", x.undo(), 0);
        due("height", x.of(2, 0), 30);
    }

    private static void nothingToRedo() {
        TallerAhead x = Checks.five();
        due("none", x.redo(), -5);
        x.mend(0, 41);
        due("none undone", x.redo(), -5);
        x.mend(0, 42);
        x.undo();
        x.undo();
        due("one more", x.redo(), 1);
        due("height", x.of(0, 0), 41);
        due("none more", x.redo(), 0);
        due("height", x.of(0, 0), 42);
        due("none", x.redo(), -5);
        due("both may be undone", x.count(4), 2);
    }

    private static void redoToAnothers() {
        TallerAhead x = Checks.five();
        x.mend(0, 99);
        x.undo();
        x.person(99);
        due("of one in THE QUEUE", x.redo(), -5);
        due("height stays", x.of(0, 0), 40);
        due("none to undo", x.count(4), 0);
        x.leave(5);
        due("of one who is out", x.redo(), -5);
        x.grow(4, 1);
        due("a deed comes not between", x.redo(), -5);
        TallerAhead y = Checks.street(10, 20);
        y.mend(0, 11);
        y.undo();
        y.grow(1, 1);
        y.grow(0, 1);
        due("it has grown to it", y.redo(), 0);
        due("height", y.of(0, 0), 11);
        TallerAhead z = Checks.street(10, 20);
        z.mend(0, 30);
        z.undo();
        z.grow(1, 10);
        due("another has grown to it", z.redo(), -5);
        z.grow(1, 1);
        due("and past it", z.redo(), 0);
        due("height", z.of(0, 0), 30);
    }

    private static void anotherCameBehind() {
        TallerAhead x = Checks.five();
        x.mend(0, 41);
        x.mend(0, 42);
        x.undo();
        x.mend(1, 21);
        due("lost", x.redo(), -5);
        due("the first and the new one", x.count(4), 2);
        due("the new one undone", x.undo(), 1);
        due("the new one done again", x.redo(), 0);
        due("height", x.of(1, 0), 21);
        x.undo();
        x.undo();
        due("refused", x.mend(0, 0), -1);
        due("another one's", x.mend(0, 10), -1);
        due("nobody", x.mend(5, 60), -1);
        due("a refused one is none", x.redo(), 1);
        x.swap(0);
        x.grow(3, 1);
        x.person(77);
        due("no other call is one", x.redo(), 0);
    }

    private static void theSameIsNone() {
        TallerAhead x = Checks.five();
        due("the same", x.mend(0, 40), 40);
        due("none", x.count(4), 0);
        due("nothing to undo", x.undo(), -5);
        x.mend(0, 41);
        x.undo();
        due("the same", x.mend(0, 40), 40);
        due("nothing came behind", x.redo(), 0);
        due("height", x.of(0, 0), 41);
    }

    private static void fortyAtMost() {
        TallerAhead x = Checks.street(50);
        for (int k = 1; k <= 40; k++) {
            x.mend(0, k);
            due("kept", x.count(4), k);
        }
        for (int k = 39; k >= 0; k--) {
            due("undone", x.undo(), k);
        }
        due("the height ahead of all", x.of(0, 0), 50);
        for (int k = 39; k >= 0; k--) {
            due("done again", x.redo(), k);
        }
        due("the latest height", x.of(0, 0), 40);
        x.mend(0, 41);
        due("40 at most", x.count(4), 40);
        for (int k = 39; k >= 0; k--) {
            due("undone", x.undo(), k);
        }
        due("the oldest is forgotten", x.undo(), -5);
        due("the height behind it", x.of(0, 0), 1);
        for (int k = 39; k >= 0; k--) {
            due("done again", x.redo(), k);
        }
        due("the latest height", x.of(0, 0), 41);
        x.undo();
        x.mend(0, 60);
        due("39 and a new one", x.count(4), 40);
        due("none done again", x.redo(), -5);
    }
}
