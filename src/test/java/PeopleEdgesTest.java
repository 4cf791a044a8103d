/** The boundary cases of promises 1 to 8 and of section 1, but for THE LAW's text (LawEdgesTest): a test for each sentence. */
public final class PeopleEdgesTest {
    private static final int MIN = Checks.MIN, MAX = Checks.MAX;

    public static void main(String[] args) {
        Checks.edge("Answers: BAD (-1), NOT (-2), FULL (-3), STATE (-5). VOID is -2000000000", PeopleEdgesTest::constants);
        Checks.edge("An empty street.", PeopleEdgesTest::emptyStreet);
        Checks.edge("PEOPLE 0 .. 8, as they come", PeopleEdgesTest::nineAtMost);
        Checks.edge("HEIGHT (1 .. 99; ...)", PeopleEdgesTest::heights);
        Checks.edge("HEIGHT (...; unlike ones)", PeopleEdgesTest::unlikeHeights);
        Checks.edge("person: BAD (another one's HEIGHT, too), FULL: 9", PeopleEdgesTest::badAheadOfFull);
        Checks.edge("each comes last at first", PeopleEdgesTest::comesLast);
        Checks.edge("people: n (1 .. 9) of them", PeopleEdgesTest::howManyOfThem);
        Checks.edge("people: BAD, -12 (no ROW of bytes; ...)", PeopleEdgesTest::noRowOfBytes);
        Checks.edge("people: (a SHELF that holds nothing is missing)", PeopleEdgesTest::missingRow);
        Checks.edge("it ends where the row ... ends", PeopleEdgesTest::rowEnds);
        Checks.edge("it ends where ... one is not so", PeopleEdgesTest::oneIsNotSo);
        Checks.edge("it ends where one is not so (another one's, too)", PeopleEdgesTest::oneIsAnothers);
        Checks.edge("it ends where ... PEOPLE are FULL: those ahead came", PeopleEdgesTest::peopleAreFull);
        Checks.edge("mend: BAD (another one's, too)", PeopleEdgesTest::mendRefused);
        Checks.edge("mend: HEIGHT of a PERSON becomes v: what it was", PeopleEdgesTest::mendAtTheEdges);
        Checks.edge("of: Of a PERSON ... BAD", PeopleEdgesTest::ofNobody);
        Checks.edge("of: of a PLACE ... BAD", PeopleEdgesTest::ofNoPlace);
        Checks.edge("of: 0 HEIGHT .. 4, 10 .. 12; BAD", PeopleEdgesTest::ofNothingElse);
        Checks.edge("of: (NOT: not in THE QUEUE)", PeopleEdgesTest::ofOneWhoIsOut);
        Checks.edge("of: NUMBER of one in THE QUEUE: how many ahead of it count", PeopleEdgesTest::leastAndGreatestNumber);
        Checks.edge("of: 3 how often it changed, 4 the greatest so far", PeopleEdgesTest::ledByNothingYet);
        Checks.edge("feed: A byte (0 .. 255)", PeopleEdgesTest::bytes);
        Checks.edge("feed: FULL (120)", PeopleEdgesTest::tapeIsFull);
        Checks.edge("law: THE TAPE is empty then", PeopleEdgesTest::tapeIsEmptyThen);
        Checks.edge("Without a text: if a is more than b", PeopleEdgesTest::withoutText);
        Checks.edge("disquiet: DISQUIET (what 0), PLAIN (1), COST (2). BAD", PeopleEdgesTest::disquietOfWhat);
        Checks.edge("DISQUIET: all NUMBERS together", PeopleEdgesTest::leastAndGreatestDisquiet);
        Checks.edge("COST: ... the first minute ahead of the first one", PeopleEdgesTest::leastAndGreatestCost);
        Checks.end("sentences on people and the queue hold at their edges");
    }

    private static void due(String call, long got, long want) {
        Checks.due(call, got, want);
    }

    private static void constants() {
        due("BAD", TallerAhead.BAD, -1);
        due("NOT", TallerAhead.NOT, -2);
        due("FULL", TallerAhead.FULL, -3);
        due("STATE", TallerAhead.STATE, -5);
        due("VOID", TallerAhead.VOID, -2000000000);
    }

    private static void emptyStreet() {
        TallerAhead x = new TallerAhead();
        for (int what = 0; what <= 6; what++) {
            due("count " + what, x.count(what), 0);
        }
        due("of a person", x.of(0, 0), -1);
        due("of a place", x.of(0, 10), -1);
        due("law", x.law(), -100);
        due("swap", x.swap(0), -1);
        due("enter", x.enter(0, 0), -1);
        due("leave", x.leave(0), -1);
        due("serve", x.serve(), -5);
        due("grow", x.grow(0, 1), -1);
        due("was", x.was(1, 0), -1);
        due("again", x.again(1), -1);
        due("calm", x.calm(0), -2);
        due("where", x.where(0, 0), -1);
        due("growth", x.growth(0), -1);
        due("sorted", x.sorted(), 0);
        due("back", x.back(), -5);
        due("undo", x.undo(), -5);
        due("redo", x.redo(), -5);
        due("act", x.act(0, 0, 1), 0);
        due("trace", x.trace(0), -1);
        for (int shelf = 0; shelf < 6; shelf++) {
            due("nothing on " + shelf, x.taken(shelf, 0), -11);
        }
    }

    private static void nineAtMost() {
        TallerAhead x = new TallerAhead();
        for (int k = 0; k < 9; k++) {
            due("person", x.person(99 - k), k);
        }
        due("a tenth", x.person(1), -3);
        due("how many", x.count(0), 9);
        x.serve();
        due("a tenth in place of a served one", x.person(1), -3);
        due("the ninth", x.of(8, 0), 91);
        due("no tenth", x.of(9, 0), -1);
    }

    private static void heights() {
        TallerAhead x = new TallerAhead();
        for (int height : new int[] {0, -1, 100, 101, 255, 256 + 50, MIN, MAX}) {
            due("person " + height, x.person(height), -1);
        }
        due("nobody came", x.count(0), 0);
        due("1", x.person(1), 0);
        due("99", x.person(99), 1);
        due("2", x.person(2), 2);
        due("98", x.person(98), 3);
    }

    private static void unlikeHeights() {
        TallerAhead x = Checks.street(1, 50, 99);
        due("the first one's", x.person(1), -1);
        due("one's between", x.person(50), -1);
        due("the last one's", x.person(99), -1);
        x.serve();
        due("of one who is out", x.person(1), -1);
        x.mend(0, 2);
        due("of nobody any longer", x.person(1), 3);
        due("mended to", x.person(2), -1);
        x.grow(0, 1);
        due("grown from", x.person(2), 4);
        due("grown to", x.person(3), -1);
    }

    private static void badAheadOfFull() {
        TallerAhead x = Checks.nine();
        due("0", x.person(0), -1);
        due("100", x.person(100), -1);
        due("another one's", x.person(10), -1);
        due("full", x.person(11), -3);
        due("full", x.person(1), -3);
        due("full", x.person(99), -3);
    }

    private static void comesLast() {
        TallerAhead x = Checks.street(50, 60);
        x.swap(0);
        due("third", x.person(70), 2);
        Checks.queueIs(x, 1, 0, 2);
        x.leave(2);
        x.leave(1);
        x.leave(0);
        due("into an empty queue", x.person(80), 3);
        Checks.queueIs(x, 3);
        due("no deed", x.count(2), 4);
    }

    private static void howManyOfThem() {
        TallerAhead x = new TallerAhead();
        Checks.fill(x, 0, 10, 20, 30, 40, 50, 60, 70, 80, 90, 95);
        for (int n : new int[] {0, -1, 10, 11, MIN, MAX}) {
            due("n " + n, x.people(0, 0, n), -1);
        }
        due("nobody came", x.count(0), 0);
        due("one of ten", x.people(0, 0, 1), 1);
        due("one alone came", x.count(0), 1);
        due("two of nine", x.people(0, 1, 2), 2);
        due("three came", x.count(0), 3);
        due("the last one", x.people(0, 9, 1), 1);
        Checks.queueIs(x, 0, 1, 2, 3);
        TallerAhead y = new TallerAhead();
        Checks.fill(y, 5, 10, 20, 30, 40, 50, 60, 70, 80, 90, 95);
        due("nine", y.people(5, 0, 9), 9);
        due("the ninth", y.of(8, 0), 90);
    }

    private static void noRowOfBytes() {
        TallerAhead x = new TallerAhead();
        for (int shelf : new int[] {-1, 6, MIN, MAX}) {
            due("shelf " + shelf, x.people(shelf, 0, 1), -1);
        }
        x.body(0);
        for (int sort = 1; sort <= 4; sort++) {
            x.row(sort, sort, 3);
            x.put(sort, 0, 1);
            due("sort " + sort, x.people(sort, 0, 1), -12);
            due("sort ahead of the place", x.people(sort, -1, 1), -12);
            due("sort ahead of the row's end", x.people(sort, 3, 1), -12);
            due("n ahead of the sort", x.people(sort, 0, 0), -1);
            due("n ahead of the sort", x.people(sort, 0, 10), -1);
        }
        x.keep(0, 0);
        due("head", x.people(0, 0, 1), -12);
        due("n ahead of the head", x.people(0, 0, 10), -1);
        due("nobody came", x.count(0), 0);
    }

    private static void missingRow() {
        TallerAhead x = new TallerAhead();
        for (int shelf = 0; shelf < 6; shelf++) {
            due("nothing at first", x.people(shelf, 0, 9), 0);
        }
        due("ahead of it", x.people(0, -1, 1), 0);
        due("far ahead of it", x.people(0, MIN, 1), 0);
        due("far behind it", x.people(0, MAX, 9), 0);
        due("n all the same", x.people(0, 0, 10), -1);
        Checks.fill(x, 0, 10);
        x.keep(0, -1);
        due("nothing any longer", x.people(0, 0, 1), 0);
        Checks.nine().people(0, 0, 1);
        due("missing ahead of FULL", Checks.nine().people(0, 0, 1), 0);
    }

    private static void rowEnds() {
        TallerAhead x = new TallerAhead();
        x.row(0, 0, 0);
        due("of no elements", x.people(0, 0, 1), 0);
        due("ahead of no elements", x.people(0, -1, 9), 0);
        Checks.fill(x, 0, 10, 20, 30);
        due("behind the end", x.people(0, 3, 1), 0);
        due("far behind the end", x.people(0, MAX, 9), 0);
        due("ahead of the first", x.people(0, -1, 9), 0);
        due("far ahead of the first", x.people(0, MIN, 9), 0);
        due("the last alone", x.people(0, 2, 9), 1);
        due("its height", x.of(0, 0), 30);
        due("just as many as there are", x.people(0, 0, 2), 2);
        x.row(1, 0, 60);
        x.put(1, 58, 58);
        x.put(1, 59, 59);
        due("the longest row's last two", x.people(1, 58, 3), 2);
        due("the last one's height", x.of(4, 0), 59);
    }

    private static void oneIsNotSo() {
        for (int not : new int[] {0, -1, 100, 127, -128, -99}) {
            TallerAhead x = new TallerAhead();
            Checks.fill(x, 0, 1, 99, not, 50);
            due("up to " + not, x.people(0, 0, 9), 2);
            due("at " + not, x.people(0, 2, 1), 0);
            due("behind " + not, x.people(0, 3, 9), 1);
            Checks.queueIs(x, 0, 1, 2);
            due("height", x.of(2, 0), 50);
        }
    }

    private static void oneIsAnothers() {
        TallerAhead x = Checks.street(50);
        Checks.fill(x, 0, 10, 20, 10, 30, 50, 40);
        due("up to one's that came by this", x.people(0, 0, 9), 2);
        due("up to one's who was there", x.people(0, 3, 9), 1);
        due("at one's who was there", x.people(0, 4, 9), 0);
        due("how many", x.count(0), 4);
    }

    private static void peopleAreFull() {
        TallerAhead x = Checks.street(1, 2, 3, 4, 5, 6, 7);
        Checks.fill(x, 0, 10, 20, 30, 40);
        due("those ahead came", x.people(0, 0, 4), 2);
        due("the ninth", x.of(8, 0), 20);
        due("full at once", x.people(0, 2, 1), 0);
        due("how many", x.count(0), 9);
        Checks.queueIs(x, 0, 1, 2, 3, 4, 5, 6, 7, 8);
    }

    private static void mendRefused() {
        TallerAhead x = Checks.five();
        for (int v : new int[] {0, -1, 100, MIN, MAX}) {
            due("to " + v, x.mend(0, v), -1);
        }
        for (int person : new int[] {-1, 5, 9, MIN, MAX}) {
            due("of " + person, x.mend(person, 60), -1);
        }
        due("another one's", x.mend(0, 10), -1);
        x.leave(4);
        due("of one who is out", x.mend(0, 10), -1);
        due("it stays", x.of(0, 0), 40);
        due("nothing to undo", x.count(4), 0);
    }

    private static void mendAtTheEdges() {
        TallerAhead x = Checks.nine();
        due("to 1", x.mend(8, 1), 10);
        due("to 99", x.mend(0, 99), 90);
        due("to its own", x.mend(0, 99), 99);
        due("no change", x.count(4), 2);
        x.leave(8);
        due("of one who is out", x.mend(8, 2), 1);
        due("height", x.of(8, 0), 2);
        due("the height that it had", x.mend(7, 1), 20);
    }

    private static void ofNobody() {
        TallerAhead x = Checks.five();
        for (int what = 0; what <= 4; what++) {
            for (int person : new int[] {-1, 5, 9, MIN, MAX}) {
                due("of " + person + ", " + what, x.of(person, what), -1);
            }
        }
        due("the first", x.of(0, 0), 40);
        due("the last", x.of(4, 0), 10);
    }

    private static void ofNoPlace() {
        TallerAhead x = Checks.five();
        for (int what = 10; what <= 12; what++) {
            for (int place : new int[] {-1, 5, 9, MIN, MAX}) {
                due("of " + place + ", " + what, x.of(place, what), -1);
            }
        }
        due("the front", x.of(0, 10), 0);
        due("the end", x.of(4, 10), 4);
        x.leave(0);
        for (int what = 10; what <= 12; what++) {
            due("a PERSON's number that is no PLACE, " + what, x.of(4, what), -1);
        }
        due("the end", x.of(3, 10), 4);
        TallerAhead y = Checks.street(50);
        y.serve();
        due("no front", y.of(0, 10), -1);
    }

    private static void ofNothingElse() {
        TallerAhead x = Checks.nine();
        for (int what : new int[] {-1, 5, 6, 7, 8, 9, 13, 14, MIN, MAX}) {
            for (int number = 0; number < 9; number++) {
                due("of " + number + ", " + what, x.of(number, what), -1);
            }
        }
    }

    private static void ofOneWhoIsOut() {
        TallerAhead x = Checks.five();
        x.swap(3);
        x.leave(3);
        due("who left", x.of(3, 10), 3);
        due("height", x.of(4, 0), 10);
        due("place", x.of(4, 1), -2);
        due("number", x.of(4, 2), -2);
        due("how often it changed", x.of(4, 3), 1);
        due("the greatest", x.of(4, 4), 3);
        due("nobody", x.of(5, 1), -1);
        due("nobody", x.of(5, 2), -1);
    }

    private static void leastAndGreatestNumber() {
        TallerAhead x = Checks.nine();
        for (int place = 0; place < 9; place++) {
            due("of a person", x.of(place, 2), place);
            due("of a place", x.of(place, 11), place);
            due("plain", x.of(place, 12), place);
        }
        Checks.tell(x, "1");
        due("nobody is ahead of the front", x.of(0, 11), 0);
        Checks.tell(x, "0");
        due("nobody counts", x.of(8, 11), 0);
        due("plain all the same", x.of(8, 12), 8);
    }

    private static void ledByNothingYet() {
        TallerAhead x = Checks.nine();
        for (int person = 0; person < 9; person++) {
            due("how often", x.of(person, 3), 0);
            due("greatest", x.of(person, 4), 0);
        }
        x.swap(-1);
        x.swap(8);
        x.leave(9);
        x.enter(0, 0);
        x.grow(0, 0);
        due("refused deeds are none", x.of(8, 4), 0);
        x.swap(7);
        due("changed", x.of(8, 3), 1);
        due("what it was ahead of the first deed is not looked at", x.of(8, 4), 7);
        due("unchanged", x.of(7, 3), 0);
        due("its greatest", x.of(7, 4), 7);
        due("the front's", x.of(0, 4), 0);
        x.swap(7);
        due("changed again", x.of(8, 3), 2);
        due("the greatest that there is", x.of(8, 4), 8);
    }

    private static void bytes() {
        TallerAhead x = new TallerAhead();
        for (int letter : new int[] {-1, 256, -128, MIN, MAX}) {
            due("feed " + letter, x.feed(letter), -1);
        }
        due("none came", x.count(3), 0);
        due("0", x.feed(0), 1);
        due("255", x.feed(255), 2);
        due("128", x.feed(128), 3);
        due("how many", x.count(3), 3);
    }

    private static void tapeIsFull() {
        TallerAhead x = new TallerAhead();
        for (int k = 1; k <= 120; k++) {
            due("feed", x.feed('a'), k);
        }
        due("one more", x.feed('a'), -3);
        due("bad ahead of full", x.feed(-1), -1);
        due("bad ahead of full", x.feed(256), -1);
        due("how many", x.count(3), 120);
    }

    private static void tapeIsEmptyThen() {
        TallerAhead x = Checks.five();
        Checks.feedAll(x, "a<b");
        due("law", x.law(), 1);
        due("empty behind a law", x.count(3), 0);
        due("nothing on it", x.law(), -100);
        Checks.feedAll(x, "a>>");
        due("fault", x.law(), -102);
        due("empty behind a fault", x.count(3), 0);
        due("the first byte anew", x.feed('b'), 1);
        due("the new text alone", x.law(), 1);
        for (int k = 0; k < 120; k++) {
            x.feed('a');
        }
        due("a full one's fault", x.law(), -101);
        due("takes bytes again", x.feed('a'), 1);
    }

    private static void withoutText() {
        TallerAhead x = Checks.street(20, 21, 20 - 1);
        due("one more", x.of(0, 2), 0);
        due("one less", x.of(1, 2), 0);
        due("both", x.of(2, 2), 2);
        Checks.tell(x, "a>");
        Checks.tell(x, "");
        due("no text by a fault", x.disquiet(0), 2);
        Checks.tell(x, "1");
        due("text", x.disquiet(0), 3);
    }

    private static void disquietOfWhat() {
        TallerAhead x = Checks.five();
        for (int what : new int[] {-1, 3, MIN, MAX}) {
            due("what " + what, x.disquiet(what), -1);
        }
        due("what 0", x.disquiet(0), 6);
        due("what 1", x.disquiet(1), 6);
        due("what 2", x.disquiet(2), 12);
    }

    private static void leastAndGreatestDisquiet() {
        TallerAhead x = Checks.nine();
        due("all count", x.disquiet(0), 36);
        due("plain", x.disquiet(1), 36);
        Checks.tell(x, "0");
        due("none count", x.disquiet(0), 0);
        due("plain all the same", x.disquiet(1), 36);
        TallerAhead y = Checks.street(50);
        Checks.tell(y, "1");
        due("one alone", y.disquiet(0), 0);
        y.serve();
        due("nobody", y.disquiet(0), 0);
        due("nobody, plain", y.disquiet(1), 0);
    }

    private static void leastAndGreatestCost() {
        TallerAhead x = Checks.nine();
        // 36, 28, 21, 15, 10, 6, 3, 1, 0 by the minute.
        due("nine", x.disquiet(2), 120);
        TallerAhead y = Checks.street(60, 50);
        due("two, one minute", y.disquiet(2), 1);
        y.swap(0);
        due("two at peace", y.disquiet(2), 0);
        y.serve();
        due("one alone", y.disquiet(2), 0);
        y.serve();
        due("nobody", y.disquiet(2), 0);
        TallerAhead z = Checks.street(10, 20, 40, 30);
        due("the last two, three minutes", z.disquiet(2), 3);
        Checks.tell(x, "g=8");
        due("the first for the last, one minute", x.disquiet(2), 1);
        Checks.tell(x, "p=7&q=8");
        due("the last two, eight minutes", x.disquiet(2), 8);
        Checks.tell(x, "1");
        due("by the law", x.disquiet(2), 120);
        Checks.tell(x, "g=1");
        due("each for the next one", x.disquiet(2), 36);
    }
}
