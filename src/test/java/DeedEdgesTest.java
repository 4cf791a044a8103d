/** The boundary cases of promises 9 to 16 and of section 4's deeds: a test for each sentence. */
public final class DeedEdgesTest {
    private static final int MIN = Checks.MIN, MAX = Checks.MAX;

    public static void main(String[] args) {
        Checks.edge("swap: The ones at PLACES i and i + 1 change: DISQUIET. BAD", DeedEdgesTest::swapAtTheEdges);
        Checks.edge("enter: at a PLACE (0 to how many there are)", DeedEdgesTest::enterAtTheEdges);
        Checks.edge("enter: A PERSON is put in", DeedEdgesTest::nobodyEnters);
        Checks.edge("enter: STATE: it is in", DeedEdgesTest::whoIsInEnters);
        Checks.edge("leave: Who stands at a PLACE is taken out: who it is. BAD", DeedEdgesTest::leaveAtTheEdges);
        Checks.edge("serve: STATE: THE QUEUE is empty", DeedEdgesTest::serveTillEmpty);
        Checks.edge("grow: A PERSON grows", DeedEdgesTest::nobodyGrows);
        Checks.edge("grow: by d (1 .. 20; ...)", DeedEdgesTest::growthAtTheEdges);
        Checks.edge("grow: on past another one's HEIGHT 1 more each time", DeedEdgesTest::growsOnPast);
        Checks.edge("grow: 99 at most, else BAD", DeedEdgesTest::growsToTheTop);
        Checks.edge("restore: BAD, -11, -12 (no ROW of bytes); STATE", DeedEdgesTest::restoreRefused);
        Checks.edge("restore: THE QUEUE becomes what a BOOK has RESTORED: 1", DeedEdgesTest::restoreAtTheEdges);
        Checks.edge("the latest 12 of these are kept (restore() too)", DeedEdgesTest::twelveAreKept);
        Checks.edge("(what is answered so is no deed)", DeedEdgesTest::refusedOnesAreNotKept);
        Checks.edge("was: ahead of the k-th latest (1 on). BAD (none kept; ...)", DeedEdgesTest::noneKept);
        Checks.edge("was: BAD (...; no such PLACE then)", DeedEdgesTest::noSuchPlaceThen);
        Checks.edge("again: how many are kept still. BAD", DeedEdgesTest::againAtTheEdges);
        Checks.edge("put back as it was by again(): that many are forgotten", DeedEdgesTest::thatManyAreForgotten);
        Checks.edge("(HEIGHTS stay.)", DeedEdgesTest::heightsStay);
        Checks.edge("LED: of one how often its NUMBER changed in deed (by these alone)", DeedEdgesTest::ledByTheseAlone);
        Checks.edge("LED: the greatest so far in them", DeedEdgesTest::greatestSoFar);
        Checks.end("sentences on deeds hold at their edges");
    }

    private static void due(String call, long got, long want) {
        Checks.due(call, got, want);
    }

    private static void swapAtTheEdges() {
        TallerAhead x = Checks.nine();
        for (int i : new int[] {-1, 8, 9, -2, MIN, MAX}) {
            due("swap " + i, x.swap(i), -1);
        }
        Checks.queueIs(x, 0, 1, 2, 3, 4, 5, 6, 7, 8);
        due("none kept", x.count(2), 0);
        due("the first two", x.swap(0), 35);
        due("the last two", x.swap(7), 34);
        Checks.queueIs(x, 1, 0, 2, 3, 4, 5, 6, 8, 7);
        TallerAhead y = Checks.street(10, 20);
        due("two", y.swap(0), 1);
        due("two, behind", y.swap(1), -1);
        y.serve();
        due("one alone", y.swap(0), -1);
        y.serve();
        due("nobody", y.swap(0), -1);
    }

    private static void enterAtTheEdges() {
        TallerAhead x = Checks.nine();
        x.leave(4);
        for (int place : new int[] {-1, 9, 10, MIN, MAX}) {
            due("at " + place, x.enter(4, place), -1);
        }
        due("at the end", x.enter(4, 8), 36 - 4);
        Checks.queueIs(x, 0, 1, 2, 3, 5, 6, 7, 8, 4);
        x.leave(8);
        due("at the front", x.enter(4, 0), 36 - 4);
        Checks.queueIs(x, 4, 0, 1, 2, 3, 5, 6, 7, 8);
        TallerAhead y = Checks.street(10, 20);
        y.serve();
        y.serve();
        due("behind nobody", y.enter(0, 1), -1);
        due("ahead of nobody", y.enter(0, -1), -1);
        due("alone", y.enter(0, 0), 0);
        due("behind the end", y.enter(1, 2), -1);
        due("at the end", y.enter(1, 1), 0);
    }

    private static void nobodyEnters() {
        TallerAhead x = Checks.five();
        x.leave(0);
        for (int person : new int[] {-1, 5, 9, MIN, MAX}) {
            due("person " + person, x.enter(person, 0), -1);
        }
        due("none kept", x.count(2), 1);
        due("nobody yet", new TallerAhead().enter(0, 0), -1);
    }

    private static void whoIsInEnters() {
        TallerAhead x = Checks.five();
        for (int person = 0; person < 5; person++) {
            due("person " + person, x.enter(person, person), -5);
            due("BAD ahead of STATE", x.enter(person, 6), -1);
            due("BAD ahead of STATE", x.enter(person, -1), -1);
        }
        due("to the end", x.enter(0, 5), -5);
        due("none kept", x.count(2), 0);
        Checks.queueIs(x, 0, 1, 2, 3, 4);
    }

    private static void leaveAtTheEdges() {
        TallerAhead x = Checks.nine();
        for (int place : new int[] {-1, 9, 10, MIN, MAX}) {
            due("from " + place, x.leave(place), -1);
        }
        due("none kept", x.count(2), 0);
        due("the last one", x.leave(8), 8);
        due("nobody there any longer", x.leave(8), -1);
        due("the first one", x.leave(0), 0);
        Checks.queueIs(x, 1, 2, 3, 4, 5, 6, 7);
        TallerAhead y = Checks.street(50);
        due("one alone", y.leave(0), 0);
        due("nobody", y.leave(0), -1);
        due("all stay PEOPLE", y.count(0), 1);
    }

    private static void serveTillEmpty() {
        TallerAhead x = Checks.nine();
        for (int k = 0; k < 9; k++) {
            due("served", x.serve(), k);
            due("how many are in", x.count(1), 8 - k);
        }
        due("empty", x.serve(), -5);
        due("kept", x.count(2), 9);
        x.enter(3, 0);
        due("once more", x.serve(), 3);
        due("empty again", x.serve(), -5);
        due("empty at first", new TallerAhead().serve(), -5);
    }

    private static void nobodyGrows() {
        TallerAhead x = Checks.five();
        for (int person : new int[] {-1, 5, 9, MIN, MAX}) {
            due("person " + person, x.grow(person, 1), -1);
        }
        due("none kept", x.count(2), 0);
        due("nobody yet", new TallerAhead().grow(0, 1), -1);
    }

    private static void growthAtTheEdges() {
        TallerAhead x = Checks.five();
        for (int d : new int[] {0, -1, 21, 22, MIN, MAX}) {
            due("by " + d, x.grow(0, d), -1);
        }
        due("height", x.of(0, 0), 40);
        due("none kept", x.count(2), 0);
        due("by 1", x.grow(0, 1), 41);
        due("by 20", x.grow(0, 20), 61);
        due("kept", x.count(2), 2);
    }

    private static void growsOnPast() {
        TallerAhead x = Checks.street(10, 12, 14, 15, 16);
        due("beside one", x.grow(0, 1), 11);
        due("onto one", x.grow(0, 1), 13);
        due("onto three in a row", x.grow(0, 1), 17);
        due("past all, onto none", x.grow(1, 6), 18);
        TallerAhead y = Checks.street(1, 11, 12, 13, 14, 15, 16, 17, 18);
        due("onto eight in a row", y.grow(0, 10), 19);
        TallerAhead z = Checks.street(10, 15, 20);
        z.leave(2);
        due("over one, onto one who is out", z.grow(0, 10), 21);
    }

    private static void growsToTheTop() {
        TallerAhead x = Checks.street(79, 78, 80);
        due("100", x.grow(2, 20), -1);
        due("99", x.grow(0, 20), 99);
        due("onto 99, so 100", x.grow(2, 19), -1);
        due("98", x.grow(1, 20), 98);
        due("onto 98 and 99, so 100", x.grow(2, 18), -1);
        due("97", x.grow(2, 17), 97);
        due("from 97 onto two, so 100", x.grow(2, 1), -1);
        due("from 99", x.grow(0, 1), -1);
        due("from 99 by 20", x.grow(0, 20), -1);
        due("kept", x.count(2), 3);
        due("height", x.of(2, 0), 97);
        x.leave(0);
        due("onto the 99 of one who is out", x.grow(1, 1), -1);
    }

    private static void restoreRefused() {
        TallerAhead x = Checks.five();
        Checks.wantsBytes(x, TallerAhead::restore);
        int[][] books = {
            {}, {0, 0, 0, 0}, {0, 0, 0, 0, 0, 0}, {-1, 0, 0, 0, 0}, {0, 0, 0, 0, -1}, {1, 0, 0, 0, 0}, {0, 2, 0, 0, 0}, {0, 0, 0, 0, 5},
            {0, 0, -2, 0, 0}, {0, 0, 0, 0, -128}, {0, 0, 0, 0, 127},
        };
        for (int[] book : books) {
            Checks.fill(x, 0, book);
            due(java.util.Arrays.toString(book), x.restore(0), -5);
        }
        Checks.queueIs(x, 0, 1, 2, 3, 4);
        due("none kept", x.count(2), 0);
    }

    private static void restoreAtTheEdges() {
        TallerAhead x = Checks.five();
        Checks.fill(x, 0, 0, 1, 2, 3, 4);
        due("the greatest numbers", x.restore(0), 1);
        Checks.queueIs(x, 3, 0, 2, 1, 4);
        Checks.fill(x, 0, 0, 0, 0, 0, 0);
        due("the least numbers", x.restore(0), 1);
        Checks.queueIs(x, 4, 1, 2, 0, 3);
        due("kept", x.count(2), 2);
        TallerAhead y = Checks.nine();
        Checks.fill(y, 5, 0, 1, 0, 1, 4, 5, 0, 7, 8);
        due("nine", y.restore(5), 1);
        for (int place = 0; place < 9; place++) {
            due("PLAIN NUMBER at " + place, y.of(place, 12), y.element(5, place));
        }
        TallerAhead z = Checks.street(50);
        Checks.fill(z, 0, 0);
        due("one alone", z.restore(0), 1);
        z.serve();
        due("as many numbers as nobody", z.restore(0), -5);
        z.row(0, 0, 0);
        due("nobody", z.restore(0), 1);
        due("kept", z.count(2), 3);
        Checks.queueIs(z);
    }

    private static void twelveAreKept() {
        TallerAhead x = Checks.nine();
        Checks.fill(x, 0, 0, 0, 0, 0, 0, 0, 0);
        // Of each kind one, and two more.
        x.swap(0);
        due("swap", x.count(2), 1);
        x.leave(8);
        due("leave", x.count(2), 2);
        x.serve();
        due("serve", x.count(2), 3);
        x.enter(1, 0);
        due("enter", x.count(2), 4);
        x.serve();
        due("serve", x.count(2), 5);
        x.restore(0);
        due("restore", x.count(2), 6);
        x.grow(0, 1);
        due("grow", x.count(2), 7);
        for (int k = 8; k <= 12; k++) {
            x.swap(0);
            due("kept", x.count(2), k);
        }
        due("the first deed's", x.was(12, 0), 0);
        due("its last one", x.was(12, 8), 8);
        due("no thirteenth", x.was(13, 0), -1);
        x.swap(0);
        due("12 at most", x.count(2), 12);
        due("the first is lost, the second deed's", x.was(12, 0), 1);
        due("no thirteenth", x.was(13, 0), -1);
        due("no thirteenth", x.again(13), -1);
        for (int k = 0; k < 30; k++) {
            x.swap(k % 3);
            due("12 at most", x.count(2), 12);
        }
    }

    private static void refusedOnesAreNotKept() {
        TallerAhead x = Checks.five();
        x.swap(4);
        x.enter(0, 0);
        x.enter(5, 0);
        x.leave(5);
        x.grow(0, 21);
        x.restore(0);
        due("none kept", x.count(2), 0);
        TallerAhead y = new TallerAhead();
        y.serve();
        due("none kept", y.count(2), 0);
        y.person(50);
        y.mend(0, 60);
        y.undo();
        y.image();
        y.back();
        Checks.tell(y, "1");
        due("other calls are no deeds", y.count(2), 0);
    }

    private static void noneKept() {
        TallerAhead x = Checks.five();
        due("none", x.was(1, 0), -1);
        due("none", x.was(0, 0), -1);
        x.serve();
        x.serve();
        for (int k : new int[] {0, -1, 3, 12, 13, MIN, MAX}) {
            due("k " + k, x.was(k, 0), -1);
        }
        due("the latest", x.was(1, 0), 1);
        due("the one ahead of it", x.was(2, 0), 0);
    }

    private static void noSuchPlaceThen() {
        TallerAhead x = Checks.five();
        x.serve();
        x.enter(0, 4);
        for (int place : new int[] {-1, 4, 5, MIN, MAX}) {
            due("ahead of the latest, " + place, x.was(1, place), -1);
        }
        due("the last one then", x.was(1, 3), 4);
        due("the last one ahead of all", x.was(2, 4), 4);
        due("behind him", x.was(2, 5), -1);
        TallerAhead y = Checks.street(50);
        y.serve();
        y.enter(0, 0);
        due("empty then", y.was(1, 0), -1);
        due("one alone then", y.was(2, 0), 0);
    }

    private static void againAtTheEdges() {
        TallerAhead x = Checks.five();
        due("none", x.again(1), -1);
        due("none", x.again(0), -1);
        for (int k = 0; k < 4; k++) {
            x.swap(k);
        }
        for (int k : new int[] {0, -1, 5, 12, 13, MIN, MAX}) {
            due("k " + k, x.again(k), -1);
        }
        due("all stay", x.count(2), 4);
        Checks.queueIs(x, 1, 2, 3, 4, 0);
        due("the latest", x.again(1), 3);
        Checks.queueIs(x, 1, 2, 3, 0, 4);
        due("all that are left", x.again(3), 0);
        Checks.queueIs(x, 0, 1, 2, 3, 4);
        due("none any longer", x.again(1), -1);
        TallerAhead y = Checks.nine();
        for (int k = 0; k < 14; k++) {
            y.swap(k % 8);
        }
        due("all 12", y.again(12), 0);
        Checks.queueIs(y, 1, 2, 0, 3, 4, 5, 6, 7, 8);
    }

    private static void thatManyAreForgotten() {
        TallerAhead x = Checks.five();
        x.serve();
        x.serve();
        x.serve();
        due("two", x.again(2), 1);
        due("no second", x.was(2, 0), -1);
        due("the first deed's", x.was(1, 0), 0);
        x.swap(0);
        due("a new one behind", x.count(2), 2);
        due("ahead of it", x.was(1, 0), 1);
        due("ahead of the first", x.was(2, 0), 0);
        due("to the first", x.again(2), 0);
        Checks.queueIs(x, 0, 1, 2, 3, 4);
    }

    private static void heightsStay() {
        TallerAhead x = Checks.five();
        x.grow(4, 5);
        x.mend(3, 60);
        x.person(70);
        due("again", x.again(1), 0);
        due("grown", x.of(4, 0), 15);
        due("mended", x.of(3, 0), 60);
        due("one who came since is out", x.of(5, 1), -2);
        due("PEOPLE stay", x.count(0), 6);
    }

    private static void ledByTheseAlone() {
        TallerAhead x = Checks.five();
        x.mend(4, 60);
        x.undo();
        x.redo();
        x.undo();
        Checks.tell(x, "0");
        Checks.tell(x, "a>b");
        x.image();
        x.back();
        due("by none of the other calls", x.of(4, 3), 0);
        x.swap(3);
        due("swap", x.of(4, 3), 1);
        x.again(1);
        due("not by again", x.of(4, 3), 1);
        x.leave(0);
        due("leave", x.of(4, 3), 2);
        x.serve();
        due("serve", x.of(4, 3), 3);
        x.enter(0, 0);
        due("enter", x.of(4, 3), 4);
        x.grow(4, 20);
        due("grow", x.of(4, 3), 5);
        Checks.fill(x, 0, 0, 0, 0, 0);
        x.restore(0);
        due("restore", x.of(4, 3), 6);
        x.restore(0);
        due("a deed that changes nothing", x.of(4, 3), 6);
        due("kept all the same", x.count(2), 6);
        x.swap(0);
        due("unchanged who stay at the end", x.of(3, 3), 0);
        TallerAhead y = Checks.street(10, 20, 30);
        y.swap(0);
        due("from the front", y.of(0, 3), 1);
        due("to the front, with 0 ahead of it and behind it", y.of(1, 3), 0);
        y.swap(1);
        due("from the middle to the end", y.of(0, 3), 2);
        y.swap(0);
        due("once more from the front", y.of(1, 3), 1);
        y.swap(0);
        due("and to the front", y.of(1, 3), 2);
    }

    private static void greatestSoFar() {
        TallerAhead x = Checks.five();
        due("ahead of all deeds", x.of(4, 4), 0);
        x.leave(0);
        due("behind the first", x.of(4, 4), 3);
        due("of one unchanged", x.of(3, 4), 0);
        x.enter(0, 0);
        due("more", x.of(4, 4), 4);
        x.grow(4, 20);
        due("less now", x.of(4, 2), 2);
        due("the greatest stays", x.of(4, 4), 4);
        x.leave(0);
        due("of one who was put in and left", x.of(0, 4), 0);
        x.enter(0, 4);
        due("of one put in behind a taller one", x.of(0, 4), 1);
        Checks.tell(x, "1");
        due("not by the law", x.of(0, 4), 1);
        x.leave(1);
        due("by the law in a deed", x.of(0, 4), 3);
    }
}
