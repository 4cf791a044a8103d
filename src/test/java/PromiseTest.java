/** For each promise of the document: ordinary inputs, edges and wrong inputs, with answers worked out by hand. */
public final class PromiseTest {
    private static final int MIN = Checks.MIN, MAX = Checks.MAX;

    private static void due(String call, long got, long want) {
        Checks.due(call, got, want);
    }

    public static void main(String[] args) {
        Runnable[] promises = {
            PromiseTest::newObject, PromiseTest::person, PromiseTest::people, PromiseTest::mend, PromiseTest::of,
            PromiseTest::feed, PromiseTest::law, PromiseTest::disquiet, PromiseTest::swap, PromiseTest::enter,
            PromiseTest::leave, PromiseTest::serve, PromiseTest::grow, PromiseTest::restore, PromiseTest::was,
            PromiseTest::again, PromiseTest::book, PromiseTest::restored, PromiseTest::ways, PromiseTest::gap,
            PromiseTest::rows, PromiseTest::rth, PromiseTest::calm, PromiseTest::where, PromiseTest::growth,
            PromiseTest::far, PromiseTest::sorted, PromiseTest::right, PromiseTest::mixed, PromiseTest::image,
            PromiseTest::back, PromiseTest::undo, PromiseTest::redo, PromiseTest::body, PromiseTest::act,
            PromiseTest::trace, PromiseTest::keep, PromiseTest::row, PromiseTest::put, PromiseTest::element,
            PromiseTest::shift, PromiseTest::taken, PromiseTest::count,
        };
        for (int k = 0; k < promises.length; k++) {
            Checks.edge("promise " + (k + 1), promises[k]);
        }
        Checks.end("promises are kept");
    }

    private static void newObject() {
        TallerAhead x = new TallerAhead();
        for (int what = 0; what <= 6; what++) {
            due("count " + what, x.count(what), 0);
        }
        for (int what = 0; what <= 2; what++) {
            due("disquiet " + what, x.disquiet(what), 0);
        }
        due("back", x.back(), -5);
        due("undo", x.undo(), -5);
        due("redo", x.redo(), -5);
        due("trace", x.trace(0), -1);
        for (int shelf = 0; shelf < 6; shelf++) {
            due("taken " + shelf, x.taken(shelf, 0), -11);
        }
    }

    private static void person() {
        TallerAhead x = new TallerAhead();
        due("too small", x.person(0), -1);
        due("too tall", x.person(100), -1);
        due("below", x.person(-5), -1);
        due("smallest", x.person(1), 0);
        due("tallest", x.person(99), 1);
        due("another one's", x.person(99), -1);
        for (int k = 2; k < 9; k++) {
            due("person", x.person(10 * k), k);
        }
        due("full", x.person(50 + 1), -3);
        due("bad ahead of full", x.person(0), -1);
        due("another one's ahead of full", x.person(99), -1);
        Checks.queueIs(x, 0, 1, 2, 3, 4, 5, 6, 7, 8);
        TallerAhead y = Checks.street(5, 6);
        y.serve();
        due("third", y.person(7), 2);
        Checks.queueIs(y, 1, 2);
        due("not kept for yesterday", y.count(2), 1);
    }

    private static void people() {
        TallerAhead x = new TallerAhead();
        due("missing row", x.people(0, 0, 3), 0);
        due("shelf", x.people(6, 0, 3), -1);
        due("shelf", x.people(-1, 0, 3), -1);
        due("none", x.people(0, 0, 0), -1);
        due("ten", x.people(0, 0, 10), -1);
        due("ahead of a missing row", x.people(0, -1, 1), 0);
        due("shelf ahead of place", x.people(6, -1, 1), -1);
        due("ten ahead of place", x.people(0, -1, 10), -1);
        x.row(1, 1, 3);
        due("shorts", x.people(1, 0, 1), -12);
        due("shorts ahead of place", x.people(1, -1, 1), -12);
        x.body(0);
        x.keep(2, 0);
        due("head", x.people(2, 0, 1), -12);
        Checks.fill(x, 0, 10, 20, 10, 30, 0, 40, 100, 50, -3, 60, 70, 80, 90, 99, 1);
        due("ahead of the row", x.people(0, -1, 3), 0);
        due("far ahead of the row", x.people(0, MIN, 9), 0);
        due("nobody came", x.count(0), 0);
        due("two", x.people(0, 0, 2), 2);
        due("another one's", x.people(0, 2, 2), 0);
        due("ends at 0", x.people(0, 3, 3), 1);
        due("ends at 100", x.people(0, 5, 9), 1);
        due("ends at -3", x.people(0, 7, 9), 1);
        due("behind the end", x.people(0, 15, 1), 0);
        due("far behind the end", x.people(0, MAX, 9), 0);
        due("the last alone", x.people(0, 14, 9), 1);
        due("full on the way", x.people(0, 9, 9), 3);
        due("full", x.people(0, 12, 1), 0);
        due("count", x.count(0), 9);
        due("height", x.of(8, 0), 80);
        Checks.queueIs(x, 0, 1, 2, 3, 4, 5, 6, 7, 8);
    }

    private static void mend() {
        TallerAhead x = Checks.five();
        Checks.tell(x, "a>b");
        due("disquiet", x.disquiet(0), 6);
        due("mend", x.mend(4, 60), 10);
        due("height", x.of(4, 0), 60);
        due("disquiet anew", x.disquiet(0), 2);
        due("the same", x.mend(4, 60), 60);
        due("changes", x.count(4), 1);
        due("another one's", x.mend(4, 50), -1);
        due("0", x.mend(4, 0), -1);
        due("100", x.mend(4, 100), -1);
        due("nobody", x.mend(5, 1), -1);
        due("nobody", x.mend(-1, 1), -1);
        due("99", x.mend(4, 99), 60);
        due("1", x.mend(4, 1), 99);
        due("changes", x.count(4), 3);
        due("no deed", x.count(2), 0);
        due("not led", x.of(4, 3), 0);
    }

    private static void of() {
        TallerAhead x = Checks.five();
        due("height", x.of(3, 0), 50);
        due("place", x.of(3, 1), 3);
        due("number", x.of(4, 2), 4);
        due("nobody", x.of(5, 0), -1);
        due("nobody", x.of(-1, 2), -1);
        due("what", x.of(0, 5), -1);
        due("what", x.of(0, 9), -1);
        due("what", x.of(0, 13), -1);
        due("what", x.of(0, -1), -1);
        x.leave(1);
        due("place of one out", x.of(1, 1), -2);
        due("number of one out", x.of(1, 2), -2);
        due("height of one out", x.of(1, 0), 20);
        due("changes of one out", x.of(1, 3), 0);
        due("who", x.of(1, 10), 2);
        due("no place", x.of(4, 10), -1);
        due("no place", x.of(4, 11), -1);
        due("no place", x.of(-1, 12), -1);
        Checks.tell(x, "a<b");
        due("number by law", x.of(2, 11), 2);
        due("plain number", x.of(2, 12), 0);
        led();
    }

    private static void led() {
        TallerAhead x = Checks.five();
        due("greatest ahead of all deeds", x.of(4, 4), 0);
        x.swap(3);
        due("changed", x.of(4, 3), 1);
        due("greatest behind the first", x.of(4, 4), 3);
        due("unchanged", x.of(1, 3), 0);
        due("its greatest", x.of(1, 4), 1);
        x.swap(3);
        due("changed again", x.of(4, 3), 2);
        due("greater", x.of(4, 4), 4);
        x.grow(4, 20);
        due("by growing", x.of(4, 3), 3);
        x.mend(4, 5);
        due("not by mending", x.of(4, 3), 3);
        due("not seen", x.of(4, 4), 4);
        x.again(1);
        x.image();
        x.back();
        Checks.tell(x, "1");
        due("not by other ways", x.of(4, 3), 3);
        due("number by law", x.of(4, 2), 4);
        x.serve();
        due("by serving", x.of(4, 3), 4);
        due("the second one", x.of(1, 3), 1);
        due("the served one", x.of(0, 3), 0);
        x.enter(0, 4);
        due("one put in had none", x.of(0, 3), 0);
        due("the greatest of one put in", x.of(0, 4), 4);
        due("unchanged by who is behind", x.of(4, 3), 4);
        Checks.fill(x, 0, 0, 0, 0, 0, 0);
        x.restore(0);
        due("by restoring", x.of(0, 3), 1);
    }

    private static void feed() {
        TallerAhead x = new TallerAhead();
        due("below", x.feed(-1), -1);
        due("above", x.feed(256), -1);
        due("0", x.feed(0), 1);
        due("255", x.feed(255), 2);
        for (int k = 3; k <= 120; k++) {
            due("feed", x.feed(97), k);
        }
        due("full", x.feed(97), -3);
        due("bad ahead of full", x.feed(256), -1);
        due("count", x.count(3), 120);
        due("law", x.law(), -100);
        due("feed anew", x.feed(97), 1);
    }

    private static void law() {
        TallerAhead x = Checks.five();
        due("empty", x.law(), -100);
        due("too early", Checks.tell(x, "a>"), -102);
        due("still plain", x.disquiet(0), 6);
        due("right", Checks.tell(x, "a<b"), 1);
        due("by law", x.disquiet(0), 4);
        due("wrong", Checks.tell(x, "a<b&&"), -104);
        due("tape is empty then", x.count(3), 0);
        due("the law stays", x.disquiet(0), 4);
        due("lines", Checks.tell(x, "g=1?a>b;g=2?1"), 1);
        due("by lines", x.disquiet(0), 2 + 3);
        due("names", Checks.tell(x, "p=0&q=4"), 1);
        due("by names", x.disquiet(0), 1);
        due("by 0", Checks.tell(x, "a/0|a%0"), 1);
        due("0", x.disquiet(0), 0);
        due("below 0", Checks.tell(x, "-7/2=-3&-7%2=-1"), 1);
        due("all", x.disquiet(0), 10);
        due("wrapping", Checks.tell(x, "9999*9999*9999<0"), 1);
        due("all", x.disquiet(0), 10);
        due("binding", Checks.tell(x, "1+2*3=7&10-4-3=3&8/4*2=4|0"), 1);
        due("all", x.disquiet(0), 10);
        due("a value counts", Checks.tell(x, "a-b-20"), 1);
        due("all but two", x.disquiet(0), 10 - 2);
        due("1 and 0", Checks.tell(x, "(5|0)=1&(5&7)=1&!5=0&!0=1"), 1);
        due("all", x.disquiet(0), 10);
        due("no line", Checks.tell(x, "0?1;a<0?1"), 1);
        due("none", x.disquiet(0), 0);
        StringBuilder longest = new StringBuilder("a>b");
        while (longest.length() < 119) {
            longest.append("+0");
        }
        due("119 bytes", Checks.tell(x, longest.toString()), 1);
        due("plainly", x.disquiet(0), 6);
        due("120 bytes", Checks.tell(x, longest + "0"), 1);
        due("plainly", x.disquiet(0), 6);
    }

    private static void disquiet() {
        TallerAhead x = Checks.five();
        due("disquiet", x.disquiet(0), 6);
        due("plain", x.disquiet(1), 6);
        due("cost", x.disquiet(2), 12);
        due("what", x.disquiet(3), -1);
        due("what", x.disquiet(-1), -1);
        Checks.tell(x, "1");
        due("by law", x.disquiet(0), 10);
        due("plain still", x.disquiet(1), 6);
        due("cost by law", x.disquiet(2), 10 + 6 + 3 + 1);
        Checks.tell(x, "g=2");
        due("by places between", x.disquiet(0), 3);
        due("cost", x.disquiet(2), 3 + 2 + 1);
    }

    private static void swap() {
        TallerAhead x = Checks.five();
        due("swap", x.swap(0), 5);
        Checks.queueIs(x, 1, 0, 2, 3, 4);
        due("last two", x.swap(3), 4);
        due("no one behind", x.swap(4), -1);
        due("below", x.swap(-1), -1);
        due("far", x.swap(MAX), -1);
        due("far below", x.swap(MIN), -1);
        due("kept", x.count(2), 2);
        due("one alone", Checks.street(5).swap(0), -1);
        Checks.tell(x, "0");
        due("by law", x.swap(1), 0);
    }

    private static void enter() {
        TallerAhead x = Checks.five();
        due("in", x.enter(0, 0), -5);
        due("bad ahead of in", x.enter(0, 6), -1);
        x.leave(3);
        due("place", x.enter(3, 5), -1);
        due("place", x.enter(3, -1), -1);
        due("nobody", x.enter(5, 0), -1);
        due("nobody", x.enter(-1, 0), -1);
        due("at the end", x.enter(3, 4), 5);
        Checks.queueIs(x, 0, 1, 2, 4, 3);
        x.leave(4);
        due("in the middle", x.enter(3, 1), 8);
        Checks.queueIs(x, 0, 3, 1, 2, 4);
        due("kept", x.count(2), 4);
    }

    private static void leave() {
        TallerAhead x = Checks.five();
        due("place", x.leave(5), -1);
        due("place", x.leave(-1), -1);
        due("leave", x.leave(1), 1);
        Checks.queueIs(x, 0, 2, 3, 4);
        due("last", x.leave(3), 4);
        due("first", x.leave(0), 0);
        Checks.queueIs(x, 2, 3);
        due("people stay", x.count(0), 5);
        due("kept", x.count(2), 3);
    }

    private static void serve() {
        TallerAhead x = Checks.street(30, 10);
        due("first", x.serve(), 0);
        Checks.queueIs(x, 1);
        due("second", x.serve(), 1);
        due("empty", x.serve(), -5);
        due("kept", x.count(2), 2);
    }

    private static void grow() {
        TallerAhead x = Checks.five();
        Checks.tell(x, "a>b");
        due("disquiet", x.disquiet(0), 6);
        due("by 0", x.grow(4, 0), -1);
        due("by 21", x.grow(4, 21), -1);
        due("nobody", x.grow(5, 1), -1);
        due("nobody", x.grow(-1, 1), -1);
        due("onto another one's", x.grow(4, 10), 21);
        due("disquiet anew", x.disquiet(0), 5);
        x.mend(0, 42);
        x.mend(1, 41);
        due("past two", x.grow(4, 20), 43);
        due("kept", x.count(2), 2);
        due("no change to be undone", x.count(4), 2);
        TallerAhead y = Checks.street(98, 99, 80);
        due("past 99", y.grow(0, 1), -1);
        due("above 99", y.grow(1, 1), -1);
        due("nothing kept", y.count(2), 0);
        due("height", y.of(0, 0), 98);
        due("pushed past 99", y.grow(2, 18), -1);
        due("just below", y.grow(2, 17), 97);
        y.leave(2);
        y.mend(2, 10);
        due("one who is out", y.grow(2, 5), 15);
        due("kept", y.count(2), 3);
    }

    private static void restore() {
        TallerAhead x = Checks.five();
        due("shelf", x.restore(6), -1);
        due("shelf", x.restore(-1), -1);
        due("nothing", x.restore(0), -11);
        x.row(0, 2, 5);
        due("ints", x.restore(0), -12);
        x.body(0);
        x.keep(0, 0);
        due("head", x.restore(0), -12);
        Checks.fill(x, 0, 0, 1, 2, 3);
        due("too short", x.restore(0), -5);
        Checks.fill(x, 0, 0, 1, 2, 3, 4, 0);
        due("too long", x.restore(0), -5);
        Checks.fill(x, 0, 0, 1, -1, 3, 4);
        due("smeared", x.restore(0), -5);
        Checks.fill(x, 0, 0, 2, 0, 3, 4);
        due("false", x.restore(0), -5);
        due("nothing kept", x.count(2), 0);
        Checks.fill(x, 0, 0, 1, 2, 3, 4);
        due("restore", x.restore(0), 1);
        Checks.queueIs(x, 3, 0, 2, 1, 4);
        due("kept", x.count(2), 1);
        Checks.tell(x, "a<b");
        Checks.fill(x, 0, 0, 0, 1, 0, 2);
        due("plain, whatever the law", x.restore(0), 1);
        for (int place = 0; place < 5; place++) {
            due("plain number", x.of(place, 12), x.element(0, place));
        }
        x.again(2);
        Checks.queueIs(x, 0, 1, 2, 3, 4);
    }

    private static void was() {
        TallerAhead x = Checks.five();
        due("none", x.was(1, 0), -1);
        x.serve();
        x.swap(0);
        due("latest", x.was(1, 0), 1);
        due("first", x.was(2, 0), 0);
        due("last place", x.was(2, 4), 4);
        due("no such place then", x.was(1, 4), -1);
        due("place", x.was(1, -1), -1);
        due("0", x.was(0, 0), -1);
        due("3", x.was(3, 0), -1);
        due("far", x.was(MAX, 0), -1);
        due("far below", x.was(MIN, 0), -1);
        TallerAhead y = Checks.street(10, 20, 30);
        for (int k = 1; k <= 14; k++) {
            y.swap(k % 2);
            due("kept", y.count(2), Math.min(k, 12));
        }
        due("twelfth", y.was(12, 0) >= 0 ? 1 : 0, 1);
        due("thirteenth", y.was(13, 0), -1);
        // Swaps of 1 and 0 in turn go round in six; ahead of the third there were two.
        due("oldest kept, front", y.was(12, 0), 2);
        due("oldest kept, middle", y.was(12, 1), 0);
        due("oldest kept, end", y.was(12, 2), 1);
    }

    private static void again() {
        TallerAhead x = Checks.five();
        due("none", x.again(1), -1);
        x.serve();
        x.swap(0);
        x.leave(3);
        due("0", x.again(0), -1);
        due("4", x.again(4), -1);
        due("far below", x.again(MIN), -1);
        due("two back", x.again(2), 1);
        Checks.queueIs(x, 1, 2, 3, 4);
        due("the last", x.again(1), 0);
        Checks.queueIs(x, 0, 1, 2, 3, 4);
        due("none left", x.again(1), -1);
        x.grow(4, 7);
        x.person(77);
        due("as it was", x.again(1), 0);
        Checks.queueIs(x, 0, 1, 2, 3, 4);
        due("heights stay", x.of(4, 0), 17);
        due("people stay", x.count(0), 6);
        for (int k = 0; k < 20; k++) {
            x.swap(0);
        }
        due("round the ring", x.again(12), 0);
        Checks.queueIs(x, 0, 1, 2, 3, 4);
    }

    private static void book() {
        TallerAhead x = Checks.five();
        due("shelf", x.book(6, 0), -1);
        due("what", x.book(0, 2), -1);
        due("what", x.book(0, -1), -1);
        due("nothing", x.book(0, 0), -11);
        x.row(0, 4, 5);
        due("booleans", x.book(0, 0), -12);
        Checks.fill(x, 0, 0, 1, 1, 0, 4, 99);
        due("none false, what is behind does not count", x.book(0, 0), -2);
        due("judged", x.book(0, 1), -2);
        Checks.fill(x, 0, 0, 1, 1);
        due("ends before", x.book(0, 0), -2);
        due("ends before", x.book(0, 1), -2);
        Checks.fill(x, 0, 0, -1, -2, 9, 4);
        due("below -1", x.book(0, 0), 2);
        due("smeared is so", x.book(0, 1), 2);
        Checks.fill(x, 0, 1, 1, 1, 0, 4);
        due("more than the place", x.book(0, 0), 0);
        Checks.fill(x, 0, 0, 1, 2, 0, 4);
        due("not false", x.book(0, 0), -2);
        due("not so", x.book(0, 1), 2);
        Checks.tell(x, "1");
        due("by law", x.book(0, 1), 3);
    }

    private static void restored() {
        TallerAhead x = Checks.five();
        due("shelf", x.restored(6, 0), -1);
        due("place ahead of nothing", x.restored(0, 5), -1);
        due("place", x.restored(0, -1), -1);
        due("nothing", x.restored(0, 0), -11);
        x.row(0, 3, 5);
        due("longs", x.restored(0, 0), -12);
        Checks.fill(x, 0, 0, 0, 0, 0, 4, 0);
        due("too long", x.restored(0, 0), -5);
        Checks.fill(x, 0, 0, 0, 0, 0);
        due("too short", x.restored(0, 0), -5);
        Checks.fill(x, 0, 0, 0, 2, 0, -1);
        due("smeared", x.restored(0, 0), -5);
        Checks.fill(x, 0, 0, 0, 2, 0, 4);
        int[] due = {2, 0, 1, 3, 4};
        for (int place = 0; place < 5; place++) {
            due("restored", x.restored(0, place), due[place]);
        }
        Checks.queueIs(x, 0, 1, 2, 3, 4);
        x.leave(0);
        due("of those who are in now", x.restored(0, 0), -5);
        Checks.fill(x, 0, 0, 1, 2, 3);
        due("tallest first", x.restored(0, 0), 3);
        due("smallest last", x.restored(0, 3), 4);
    }

    private static void ways() {
        TallerAhead x = Checks.five();
        due("shelf", x.ways(-1, 0), -1);
        due("d", x.ways(0, -2), -1);
        due("d", x.ways(0, 37), -1);
        due("nothing", x.ways(0, 36), -11);
        x.row(0, 1, 5);
        due("shorts", x.ways(0, -1), -12);
        Checks.fill(x, 0, 0, -1, -1, 1);
        due("fewer", x.ways(0, -1), -5);
        Checks.fill(x, 0, 0, 2, -1, 1, -1);
        due("false", x.ways(0, -1), -5);
        Checks.fill(x, 0, -1, -1, -1, -1, -1, -9, -1);
        due("all smeared", x.ways(0, -1), 120);
        due("of 5", x.ways(0, 5), 22);
        due("of 10", x.ways(0, 10), 1);
        due("of 11", x.ways(0, 11), 0);
        Checks.fill(x, 0, 0, 1, -1, 3, -1);
        due("two smeared", x.ways(0, -1), 15);
        due("least", x.ways(0, 4), 1);
        due("below", x.ways(0, 3), 0);
        due("between", x.ways(0, 6), 3);
        due("most", x.ways(0, 10), 1);
        Checks.fill(x, 0, 0, 1, 1, 3, 2);
        due("none smeared", x.ways(0, -1), 1);
        due("its own", x.ways(0, 7), 1);
        due("another", x.ways(0, 6), 0);
        TallerAhead y = Checks.street(1, 2, 3, 4, 5, 6, 7, 8, 9);
        Checks.fill(y, 5, -1, -1, -1, -1, -1, -1, -1, -1, -1);
        due("9!", y.ways(5, -1), 362880);
        due("of 18", y.ways(5, 18), 29228);
        due("of 36", y.ways(5, 36), 1);
    }

    private static void gap() {
        TallerAhead x = Checks.five();
        due("shelf", x.gap(6, 0, 0), -1);
        due("what", x.gap(0, 0, 2), -1);
        due("what", x.gap(0, 0, -1), -1);
        due("nothing", x.gap(0, 6, 0), -11);
        due("no DISQUIET ahead of nothing", x.gap(0, -1, 0), -1);
        due("no DISQUIET ahead of nothing", x.gap(0, 37, 1), -1);
        due("least DISQUIET, nothing", x.gap(0, 0, 0), -11);
        due("greatest DISQUIET, nothing", x.gap(0, 36, 1), -11);
        x.row(0, 1, 5);
        due("shorts", x.gap(0, 6, 0), -12);
        due("no DISQUIET ahead of shorts", x.gap(0, -1, 0), -1);
        Checks.fill(x, 0, 0, 1, -1, 0);
        due("fewer", x.gap(0, 6, 0), -5);
        Checks.fill(x, 0, 0, 2, -1, 0, 4);
        due("false", x.gap(0, 6, 0), -5);
        Checks.fill(x, 0, 0, 1, 1, 0, 4);
        due("none smeared", x.gap(0, 6, 0), -5);
        Checks.fill(x, 0, 0, 1, -1, -1, 4);
        due("two smeared", x.gap(0, 6, 0), -5);
        due("no DISQUIET ahead of two smeared", x.gap(0, 37, 0), -1);
        Checks.fill(x, 0, 0, 1, -1, 0, 4);
        due("below", x.gap(0, 4, 0), -2);
        due("least", x.gap(0, 5, 0), 0);
        due("most", x.gap(0, 7, 0), 2);
        due("above", x.gap(0, 8, 1), -2);
        due("no row of five has it", x.gap(0, 36, 0), -2);
        due("no DISQUIET", x.gap(0, -1, 0), -1);
        due("no DISQUIET", x.gap(0, 37, 1), -1);
        due("far below", x.gap(0, MIN, 0), -1);
        due("far above", x.gap(0, MAX, 0), -1);
        due("who", x.gap(0, 5, 1), 0);
        due("who", x.gap(0, 6, 1), 2);
        due("who", x.gap(0, 7, 1), 1);
        due("the book stays", x.element(0, 2), -1);
        Checks.fill(x, 0, 0, 1, -1, 0, 4, -1);
        due("what is behind does not count", x.gap(0, 6, 1), 2);
        TallerAhead y = Checks.street(1, 2, 3, 4, 5, 6, 7, 8, 9);
        Checks.fill(y, 0, 0, 1, 2, 3, 4, 5, 6, 7, -1);
        due("36", y.gap(0, 36, 0), 8);
        due("who of 36", y.gap(0, 36, 1), 0);
    }

    private static void rows() {
        TallerAhead x = new TallerAhead();
        due("nobody", x.rows(0), 1);
        due("nobody", x.rows(1), 0);
        due("below", x.rows(-1), -1);
        due("above", x.rows(37), -1);
        int[] byFour = {1, 3, 5, 6, 5, 3, 1, 0};
        TallerAhead y = Checks.street(4, 3, 2, 1);
        for (int d = 0; d < byFour.length; d++) {
            due("four, " + d, y.rows(d), byFour[d]);
        }
        due("36", y.rows(36), 0);
        y.serve();
        due("three", y.rows(1), 2);
        TallerAhead z = Checks.street(1, 2, 3, 4, 5, 6, 7, 8, 9);
        due("nine, 18", z.rows(18), 29228);
        due("nine, 36", z.rows(36), 1);
    }

    private static void rth() {
        TallerAhead x = Checks.street(30, 10, 20);
        due("d", x.rth(-1, 0, 0), -1);
        due("d", x.rth(37, 0, 0), -1);
        due("r", x.rth(0, -1, 0), -1);
        due("place", x.rth(0, 0, 3), -1);
        due("place", x.rth(0, 0, -1), -1);
        due("not as many", x.rth(0, 1, 0), -2);
        due("not as many", x.rth(1, 2, 0), -2);
        due("not as many", x.rth(4, 0, 0), -2);
        due("far", x.rth(1, MAX, 0), -2);
        int[][] due = {{1, 2, 0}, {1, 0, 2}, {2, 1, 0}, {2, 0, 1}, {0, 1, 2}, {0, 2, 1}};
        int[] disquiet = {0, 1, 1, 2, 2, 3};
        int[] rank = {0, 0, 1, 0, 1, 0};
        for (int k = 0; k < due.length; k++) {
            for (int place = 0; place < 3; place++) {
                due("row " + k, x.rth(disquiet[k], rank[k], place), due[k][place]);
            }
        }
        Checks.tell(x, "1");
        due("plain, whatever the law", x.rth(2, 1, 0), 0);
        TallerAhead y = Checks.street(1, 2, 3, 4, 5, 6, 7, 8, 9);
        due("36", y.rth(36, 0, 0), 8);
        due("only one of 36", y.rth(36, 1, 0), -2);
    }

    private static void calm() {
        TallerAhead x = Checks.five();
        due("places", x.calm(0), 4);
        due("disquiet then", x.calm(1), 1);
        due("what", x.calm(2), -1);
        due("what", x.calm(-1), -1);
        Checks.queueIs(x, 0, 1, 2, 3, 4);
        due("no deed", x.count(2), 0);
        due("calm already", Checks.street(1, 2, 3).calm(0), -2);
        due("calm already", Checks.street(1, 2, 3).calm(1), -2);
        TallerAhead y = Checks.street(20, 10, 40, 30);
        due("of like ones the first", y.calm(0), 1);
        due("then", y.calm(1), 1);
        Checks.tell(y, "p=3&q=2|p=2&q=1");
        due("disquiet by law", y.disquiet(0), 0);
        due("not", y.calm(0), -2);
        Checks.tell(y, "p=2&q=3");
        due("by law", y.calm(0), 3);
        due("then", y.calm(1), 0);
    }

    private static void where() {
        TallerAhead x = Checks.street(10, 30, 40, 20);
        due("in", x.where(3, 0), -5);
        due("bad ahead of in", x.where(3, 4), -1);
        x.leave(3);
        due("place", x.where(3, 0), 1);
        due("disquiet then", x.where(3, 2), 0);
        due("place for its number", x.where(3, 1), 0);
        due("its number", x.where(3, 3), 0);
        due("what", x.where(3, -1), -1);
        due("nobody", x.where(4, 0), -1);
        due("nobody", x.where(-1, 0), -1);
        Checks.queueIs(x, 0, 1, 2);
        Checks.tell(x, "p=3");
        due("at the end", x.where(3, 0), 3);
        due("disquiet then", x.where(3, 2), 0);
        Checks.tell(x, "1");
        due("of like ones the least", x.where(3, 0), 0);
        due("disquiet then", x.where(3, 2), 6);
    }

    private static void growth() {
        TallerAhead x = Checks.street(70, 10, 9, 80);
        due("nobody", x.growth(4), -1);
        due("nobody", x.growth(-1), -1);
        due("front", x.growth(0), 0);
        due("60", x.growth(1), 60);
        due("61", x.growth(2), -2);
        due("tallest", x.growth(3), 0);
        x.leave(3);
        due("out", x.growth(3), -5);
        due("no deed", x.of(1, 0), 10);
        Checks.tell(x, "b<69&p=0");
        due("by law", x.growth(1), 59);
        Checks.tell(x, "b%7");
        due("others do not hinder", x.growth(2), 5);
        TallerAhead y = Checks.street(1, 90);
        Checks.tell(y, "b<150");
        due("past 99 in thought", y.growth(1), 60);
    }

    private static void far() {
        TallerAhead x = Checks.five();
        due("shelf", x.far(6), -1);
        due("nothing", x.far(0), -11);
        x.row(0, 4, 5);
        due("booleans", x.far(0), -12);
        Checks.fill(x, 0, 0, 1, 2, 3);
        due("fewer", x.far(0), -5);
        Checks.fill(x, 0, 0, 1, 2, 3, 4, 4);
        due("more", x.far(0), -5);
        Checks.fill(x, 0, 0, 1, 2, 3, 3);
        due("twice", x.far(0), -5);
        Checks.fill(x, 0, 0, 1, 2, 3, 5);
        due("nobody", x.far(0), -5);
        Checks.fill(x, 0, 0, 1, 2, 3, -1);
        due("nobody", x.far(0), -5);
        Checks.fill(x, 0, 0, 1, 2, 3, 4);
        due("as it is", x.far(0), 0);
        Checks.fill(x, 0, 4, 3, 2, 1, 0);
        due("turned round", x.far(0), 10);
        Checks.fill(x, 0, 1, 2, 3, 4, 0);
        due("first to the end", x.far(0), 4);
        x.leave(0);
        due("one who is out", x.far(0), -5);
        Checks.fill(x, 0, 2, 1, 4, 3);
        due("two pairs", x.far(0), 2);
    }

    private static void sorted() {
        due("nobody", new TallerAhead().sorted(), 0);
        TallerAhead x = Checks.five();
        due("sorted", x.sorted(), 6);
        Checks.tell(x, "1");
        due("whatever the law", x.sorted(), 6);
        due("turned round", Checks.street(9, 8, 7, 6, 5, 4, 3, 2, 1).sorted(), 36);
        due("in order", Checks.street(1, 2, 3).sorted(), 0);
    }

    private static void right() {
        TallerAhead x = Checks.five();
        due("who may be first", x.right(-2), 9);
        due("orders", x.right(-1), 4);
        int[] due = {0, 3, 1, 2, 4};
        for (int k = 0; k < 5; k++) {
            due("served " + k, x.right(k), due[k]);
        }
        due("k", x.right(5), -1);
        due("k", x.right(-3), -1);
        due("k", x.right(MIN), -1);
        TallerAhead y = Checks.street(1, 2, 3, 4, 5, 6, 7, 8, 9);
        due("all may be first", y.right(-2), 511);
        due("9!", y.right(-1), 362880);
        due("by numbers", y.right(8), 8);
        y.serve();
        due("bits of people", y.right(-2), 510);
        TallerAhead z = Checks.street(9, 8, 7);
        due("one by one", z.right(-1), 1);
        due("the tallest", z.right(-2), 1);
        Checks.tell(z, "a>b&g=1");
        due("by law", z.right(-1), 2);
    }

    private static void mixed() {
        TallerAhead x = Checks.five();
        due("0 times", x.mixed(5, 0, -2), -1);
        due("51 times", x.mixed(5, 51, -2), -1);
        due("nobody", x.mixed(5, 1, 5), -1);
        due("nobody", x.mixed(5, 1, -3), -1);
        due("sum", x.mixed(5, 20, -2), 97);
        due("less", x.mixed(5, 20, -1), 12);
        due("first", x.mixed(5, 20, 3), 4);
        int firsts = 0;
        for (int who = 0; who < 5; who++) {
            firsts += x.mixed(-77, 50, who);
        }
        due("somebody is first each time", firsts, 50);
        Checks.queueIs(x, 0, 1, 2, 3, 4);
        x.leave(3);
        due("one who is out", x.mixed(5, 20, 3), 0);
        Checks.tell(x, "1");
        due("by law", x.mixed(5, 20, -2), 120);
        due("never less", x.mixed(5, 20, -1), 0);
        TallerAhead y = Checks.street(10);
        due("alone", y.mixed(1, 50, 0), 50);
        due("nobody yet", new TallerAhead().mixed(1, 50, 0), -1);
        due("nothing to mix", new TallerAhead().mixed(1, 50, -2), 0);
        // z = 12345, and 12345 >>> 8 = 48: even, so the two change.
        TallerAhead z = Checks.street(10, 20);
        due("one draw", z.mixed(0, 1, 1), 1);
        due("its disquiet", z.mixed(0, 1, -2), 1);
    }

    private static void image() {
        TallerAhead x = Checks.five();
        due("image", x.image(), 5);
        x.serve();
        due("another", x.image(), 4);
        x.serve();
        due("back to the latest", x.back(), 4);
        Checks.queueIs(x, 1, 2, 3, 4);
        due("empty", new TallerAhead().image(), 0);
    }

    private static void back() {
        TallerAhead x = Checks.five();
        due("none", x.back(), -5);
        x.image();
        x.serve();
        x.swap(0);
        x.person(77);
        due("back", x.back(), 5);
        Checks.queueIs(x, 0, 1, 2, 3, 4);
        due("nothing kept by it", x.count(2), 2);
        x.leave(4);
        due("again", x.back(), 5);
        due("the new one is out", x.of(5, 1), -2);
        x.mend(0, 45);
        x.back();
        due("heights stay", x.of(0, 0), 45);
    }

    private static void undo() {
        TallerAhead x = Checks.five();
        Checks.tell(x, "a>b");
        due("none", x.undo(), -5);
        x.mend(4, 60);
        x.mend(4, 70);
        x.disquiet(0);
        due("one left", x.undo(), 1);
        due("height", x.of(4, 0), 60);
        due("disquiet", x.disquiet(0), 2);
        due("none left", x.undo(), 0);
        due("height", x.of(4, 0), 10);
        due("disquiet anew", x.disquiet(0), 6);
        due("none", x.undo(), -5);
        x.mend(4, 60);
        x.mend(3, 10);
        x.mend(3, 50);
        x.grow(1, 10);
        due("back to 10", x.undo(), 2);
        due("10 for 50", x.undo(), 1);
        due("10 for 60", x.undo(), 0);
        x.mend(4, 61);
        x.person(10);
        due("another one's", x.undo(), -5);
        due("stays", x.count(4), 1);
        TallerAhead y = Checks.street(50);
        for (int k = 1; k <= 45; k++) {
            y.mend(0, k);
        }
        due("40 at most", y.count(4), 40);
        for (int k = 39; k >= 0; k--) {
            due("undo", y.undo(), k);
        }
        due("no further", y.undo(), -5);
        due("the oldest kept", y.of(0, 0), 5);
    }

    private static void redo() {
        TallerAhead x = Checks.five();
        due("none", x.redo(), -5);
        x.mend(4, 60);
        x.mend(4, 70);
        due("none", x.redo(), -5);
        x.undo();
        x.undo();
        due("one left", x.redo(), 1);
        due("height", x.of(4, 0), 60);
        due("undoable", x.count(4), 1);
        x.mend(4, 60);
        due("the same is none", x.redo(), 0);
        due("height", x.of(4, 0), 70);
        x.undo();
        x.mend(3, 51);
        due("another came behind", x.redo(), -5);
        x.undo();
        x.person(51);
        due("another one's", x.redo(), -5);
        x.mend(5, 52);
        due("that one is lost", x.redo(), -5);
        x.undo();
        x.grow(5, 20);
        due("by growing", x.of(5, 0), 71);
        due("done again all the same", x.redo(), 0);
        due("height", x.of(5, 0), 52);
        TallerAhead y = Checks.street(91, 92, 93);
        for (int k = 1; k <= 44; k++) {
            y.mend(k % 3, k);
        }
        for (int k = 0; k < 40; k++) {
            y.undo();
        }
        // The four oldest are forgotten, the last of them gave 1 its height 4.
        int[] undone = {3, 4, 2};
        for (int who = 0; who < 3; who++) {
            due("undone as far as it goes", y.of(who, 0), undone[who]);
        }
        for (int k = 5; k <= 44; k++) {
            due("redo", y.redo(), 44 - k);
            due("whose", y.of(k % 3, 0), k);
        }
        due("no further", y.redo(), -5);
    }

    private static void body() {
        TallerAhead x = new TallerAhead();
        due("kind", x.body(8), -1);
        due("kind", x.body(-1), -1);
        for (int k = 0; k < 50; k++) {
            due("body", x.body(k % 8), k);
        }
        due("full", x.body(0), -3);
        due("bad ahead of full", x.body(8), -1);
        due("count", x.count(5), 50);
    }

    private static void act() {
        TallerAhead x = new TallerAhead();
        for (int kind = 0; kind < 8; kind++) {
            x.body(kind);
        }
        // By kind, with its own number: says(10), stands(10), moves(10), tells(10).
        int[][] due = {
            {10, 20, 10, 19},
            {14, 28, 11, 28},
            {12, -24, 8, -27},
            {13, -28, 27, -34},
            {17, 34, 5, 38},
            {15, -32, 45, -47},
            {32, 64, 12, 57},
            {20, 33, 1, 38},
        };
        for (int kind = 0; kind < 8; kind++) {
            for (int act = 0; act < 4; act++) {
                due("act " + act + " of kind " + kind, x.act(kind, act, 10), due[kind][act]);
            }
        }
        due("wraps", x.act(1, 0, MAX), MIN + 3);
        due("no head", x.act(8, 0, 10), 0);
        due("no trace then", x.trace(0), -1);
        x.act(0, 0, 1);
        due("no act", x.act(0, 4, 10), 0);
        due("none ran", x.count(6), 0);
        due("no act", x.act(0, -1, 10), 0);
        due("no head", x.act(-1, 0, 10), 0);
    }

    private static void trace() {
        TallerAhead x = new TallerAhead();
        int[][] due = {
            {2, 10, 1, 11},
            {2, 10, 20, 1, 11},
            {2, 30, 10, 1, 11},
            {2, 41, 30, 10, 1, 40, 11},
            {2, 10, 20, 1, 50, 11, 20, 1},
            {60, 2, 41, 30, 10, 1, 40, 11},
            {2, 10, 70, 1, 11},
            {81, 2, 80, 10, 20, 1, 50, 11, 20, 1, 50, 11, 20, 1},
        };
        for (int kind = 0; kind < 8; kind++) {
            x.act(x.body(kind), 3, 5);
            due("ran", x.count(6), due[kind].length);
            for (int i = 0; i < due[kind].length; i++) {
                due("trace of kind " + kind, x.trace(i), due[kind][i]);
            }
            due("behind", x.trace(due[kind].length), -1);
            due("below", x.trace(-1), -1);
        }
    }

    private static void keep() {
        TallerAhead x = new TallerAhead();
        due("no head", x.keep(0, 0), -1);
        x.body(3);
        due("shelf", x.keep(6, 0), -1);
        due("shelf", x.keep(-1, -1), -1);
        due("head", x.keep(5, 0), 1);
        due("kind", x.taken(5, 0), 3);
        due("no head", x.keep(5, 1), -1);
        due("no head", x.keep(5, -2), -1);
        due("nothing", x.keep(5, -1), 1);
        due("nothing", x.taken(5, 0), -11);
        x.row(5, 0, 3);
        due("instead of a row", x.keep(5, 0), 1);
        due("no row", x.put(5, 0, 1), -12);
    }

    private static void row() {
        TallerAhead x = new TallerAhead();
        due("shelf", x.row(6, 0, 1), -1);
        due("shelf", x.row(-1, 0, 1), -1);
        due("sort", x.row(0, 5, 1), -1);
        due("sort", x.row(0, -1, -1), -1);
        due("61", x.row(0, 0, 61), -1);
        due("-1", x.row(0, 0, -1), -14);
        due("far below", x.row(0, 0, MIN), -14);
        due("nothing changed", x.element(0, 0), Long.MIN_VALUE);
        due("60", x.row(0, 3, 60), 1);
        x.put(0, 59, 7);
        due("last", x.element(0, 59), 7);
        due("anew", x.row(0, 0, 60), 1);
        due("0 at first", x.element(0, 59), 0);
        due("0", x.row(0, 0, 0), 1);
        due("no place", x.put(0, 0, 1), -13);
    }

    private static void put() {
        TallerAhead x = new TallerAhead();
        due("shelf", x.put(6, 0, 1), -1);
        due("nothing", x.put(0, 0, 1), -11);
        x.body(0);
        x.keep(0, 0);
        due("head", x.put(0, 0, 1), -12);
        long v = 0x123456789ABCDEF0L;
        long[] due = {(byte) 0xF0, (short) 0xDEF0, 0x9ABCDEF0, v, 1};
        for (int sort = 0; sort < 5; sort++) {
            x.row(0, sort, 2);
            due("put", x.put(0, 1, v), 1);
            due("lowest bits", x.element(0, 1), due[sort]);
            due("the other stays", x.element(0, 0), 0);
            due("0", x.put(0, 1, 0), 1);
            due("0", x.element(0, 1), 0);
        }
        x.row(0, 4, 1);
        x.put(0, 0, 256);
        due("not 0", x.element(0, 0), 1);
        due("below", x.put(0, -1, 1), -13);
        due("behind", x.put(0, 1, 1), -13);
    }

    private static void element() {
        TallerAhead x = new TallerAhead();
        due("shelf", x.element(6, 0), Long.MIN_VALUE);
        due("shelf", x.element(-1, 0), Long.MIN_VALUE);
        due("nothing", x.element(0, 0), Long.MIN_VALUE);
        x.body(0);
        x.keep(0, 0);
        due("head", x.element(0, 0), Long.MIN_VALUE);
        Checks.fill(x, 0, 5, -6);
        due("first", x.element(0, 0), 5);
        due("second", x.element(0, 1), -6);
        due("behind", x.element(0, 2), Long.MIN_VALUE);
        due("below", x.element(0, -1), Long.MIN_VALUE);
    }

    private static void shift() {
        TallerAhead x = new TallerAhead();
        due("shelf", x.shift(6, 0, 0, 0, 0), -1);
        due("shelf", x.shift(0, 0, -1, 0, 0), -1);
        Checks.fill(x, 0, 1, 2, 3, 4, 5);
        due("nothing", x.shift(0, 0, 1, 0, 0), -11);
        due("nothing", x.shift(1, 0, 0, 0, 0), -11);
        x.body(0);
        x.keep(2, 0);
        due("nothing ahead of a head", x.shift(2, 0, 1, 0, 0), -11);
        due("head", x.shift(2, 0, 0, 0, 0), -12);
        due("head", x.shift(0, 0, 2, 0, 0), -12);
        due("head", x.shift(2, 0, 2, 0, 0), -12);
        x.row(1, 1, 5);
        due("unlike", x.shift(0, 0, 1, 0, 0), -12);
        due("unlike ahead of place", x.shift(0, 9, 1, 0, 1), -12);
        due("onwards", x.shift(0, 0, 0, 1, 4), 4);
        int[] onwards = {1, 1, 2, 3, 4};
        for (int i = 0; i < 5; i++) {
            due("as they were", x.element(0, i), onwards[i]);
        }
        due("backwards", x.shift(0, 2, 0, 0, 3), 3);
        int[] backwards = {2, 3, 4, 3, 4};
        for (int i = 0; i < 5; i++) {
            due("as they were", x.element(0, i), backwards[i]);
        }
        x.row(1, 0, 3);
        due("to another", x.shift(0, 1, 1, 0, 3), 3);
        due("came", x.element(1, 1), 4);
        due("stays", x.element(0, 2), 4);
        due("none at the end", x.shift(0, 5, 1, 3, 0), 0);
        due("none behind the end", x.shift(0, 6, 1, 0, 0), -13);
        due("too many", x.shift(0, 3, 1, 0, 3), -13);
        due("too many there", x.shift(0, 0, 1, 1, 3), -13);
        due("below", x.shift(0, -1, 1, 0, 1), -13);
        due("below", x.shift(0, 0, 1, -1, 1), -13);
        due("fewer than none", x.shift(0, 0, 1, 0, -1), -13);
        due("far", x.shift(0, MAX, 1, 0, MAX), -13);
        due("far", x.shift(0, 1, 1, 1, MAX), -13);
        due("far below", x.shift(0, MAX, 1, 0, MIN), -13);
    }

    private static void taken() {
        TallerAhead x = new TallerAhead();
        due("shelf", x.taken(6, 0), -1);
        due("kind", x.taken(0, 8), -1);
        due("kind", x.taken(0, -1), -1);
        due("nothing", x.taken(0, 0), -11);
        x.row(0, 0, 1);
        due("row", x.taken(0, 0), -12);
        // By kind, bits of the kinds for which it may be taken.
        int[] due = {1, 1 | 2, 1 | 4, 1 | 4 | 8, 1 | 2 | 16, 1 | 4 | 8 | 32, 1 | 64, 1 | 2 | 16 | 128};
        for (int kind = 0; kind < 8; kind++) {
            x.keep(1, x.body(kind));
            for (int k = 0; k < 8; k++) {
                due("kind " + kind + " for " + k, x.taken(1, k), (due[kind] >> k & 1) == 1 ? kind : -12);
            }
        }
    }

    private static void count() {
        TallerAhead x = Checks.five();
        x.serve();
        x.swap(0);
        x.feed(97);
        x.mend(0, 41);
        x.mend(0, 42);
        x.mend(0, 43);
        x.undo();
        x.body(7);
        x.act(0, 3, 1);
        int[] due = {5, 4, 2, 1, 2, 1, 14};
        for (int what = 0; what < due.length; what++) {
            due("count " + what, x.count(what), due[what]);
        }
        due("what", x.count(7), -1);
        due("what", x.count(-1), -1);
    }
}
