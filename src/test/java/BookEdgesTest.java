import java.util.Arrays;

/** The boundary cases of promises 17 to 22 and of section 2: a test for each sentence. */
public final class BookEdgesTest {
    private static final int MIN = Checks.MIN, MAX = Checks.MAX;

    public static void main(String[] args) {
        Checks.edge("book: FALSE (what 0), JUDGED (1). BAD, -11, -12 (no ROW of bytes)", BookEdgesTest::bookRefused);
        Checks.edge("FALSE: the first PLACE whose number is below -1", BookEdgesTest::belowSmeared);
        Checks.edge("FALSE: ... or more than the PLACE", BookEdgesTest::moreThanThePlace);
        Checks.edge("FALSE: the first PLACE", BookEdgesTest::firstFalse);
        Checks.edge("JUDGED: the first PLACE whose number is not its NUMBER now", BookEdgesTest::firstUnlike);
        Checks.edge("JUDGED: (...; smeared ones are so)", BookEdgesTest::smearedAreSo);
        Checks.edge("both NOT, if none (also if it ends before; ...)", BookEdgesTest::endsBefore);
        Checks.edge("(...; what is behind THE QUEUE does not count)", BookEdgesTest::behindTheQueue);
        Checks.edge("restored: BAD, -11, -12; STATE", BookEdgesTest::restoredRefused);
        Checks.edge("RESTORED: a BOOK of as many numbers as THE QUEUE has people, none smeared, none FALSE (STATE: it is not so)",
            BookEdgesTest::restoredOfNoSuchBook);
        Checks.edge("RESTORED: the one who has just as many taller among those who are left as the number says",
            BookEdgesTest::restoredAtTheEdges);
        Checks.edge("ways: WAYS (d -1), of DISQUIET d (0 .. 36). BAD, -11, -12", BookEdgesTest::waysRefused);
        Checks.edge("WAYS: (STATE: fewer numbers than people, or one is FALSE)", BookEdgesTest::waysOfNoSuchBook);
        Checks.edge("WAYS: how many ways there are to fill them", BookEdgesTest::leastAndMostWays);
        Checks.edge("WAYS: of these how many have a told DISQUIET", BookEdgesTest::waysByDisquiet);
        Checks.edge("gap: its number (what 0), who (1). BAD, -11, -12", BookEdgesTest::gapRefused);
        Checks.edge("gap: by DISQUIET d (0 .. 36)", BookEdgesTest::gapByNoDisquiet);
        Checks.edge("gap: STATE (also: not just one smeared)", BookEdgesTest::notJustOneSmeared);
        Checks.edge("GAP: NOT: it cannot be", BookEdgesTest::gapCannotBe);
        Checks.edge("GAP: its number; who would stand there", BookEdgesTest::gapAtTheEdges);
        Checks.edge("rows: DISQUIET d (0 .. 36). BAD", BookEdgesTest::rowsOfNoDisquiet);
        Checks.edge("ROWS: of as many people as there are in THE QUEUE", BookEdgesTest::rowsByPeople);
        Checks.edge("rth: BAD", BookEdgesTest::rthRefused);
        Checks.edge("R-TH: NOT: there are not as many", BookEdgesTest::notAsManyRows);
        Checks.edge("R-TH: the r-th (from 0), the smallest one at the front first", BookEdgesTest::firstAndLastRow);
        Checks.end("sentences on books hold at their edges");
    }

    private static void due(String call, long got, long want) {
        Checks.due(call, got, want);
    }

    private static void bookRefused() {
        TallerAhead x = Checks.five();
        Checks.wantsBytes(x, (t, shelf) -> t.book(shelf, 0));
        Checks.wantsBytes(x, (t, shelf) -> t.book(shelf, 1));
        for (int what : new int[] {-1, 2, MIN, MAX}) {
            due("what ahead of -11", x.book(0, what), -1);
            x.row(1, 1, 5);
            due("what ahead of -12", x.book(1, what), -1);
            Checks.fill(x, 2, 0, 1, 1, 0, 4);
            due("what", x.book(2, what), -1);
        }
    }

    private static void belowSmeared() {
        TallerAhead x = Checks.five();
        for (int place = 0; place < 5; place++) {
            Checks.fill(x, 0, 0, 0, 0, 0, 0);
            x.put(0, place, -1);
            due("-1 at " + place, x.book(0, 0), -2);
            x.put(0, place, -2);
            due("-2 at " + place, x.book(0, 0), place);
            x.put(0, place, -128);
            due("-128 at " + place, x.book(0, 0), place);
        }
    }

    private static void moreThanThePlace() {
        TallerAhead x = Checks.nine();
        for (int place = 0; place < 9; place++) {
            Checks.fill(x, 0, 0, 0, 0, 0, 0, 0, 0, 0, 0);
            x.put(0, place, place);
            due("as much as the PLACE " + place, x.book(0, 0), -2);
            x.put(0, place, place + 1);
            due("one more", x.book(0, 0), place);
            x.put(0, place, 127);
            due("127", x.book(0, 0), place);
        }
    }

    private static void firstFalse() {
        TallerAhead x = Checks.five();
        Checks.fill(x, 0, 1, 2, 3, 4, 5);
        due("all", x.book(0, 0), 0);
        Checks.fill(x, 0, 0, 1, 2, 4, -2);
        due("the first of two", x.book(0, 0), 3);
        Checks.fill(x, 0, -1, -1, -1, -1, 5);
        due("the last alone", x.book(0, 0), 4);
    }

    private static void firstUnlike() {
        TallerAhead x = Checks.five();
        for (int place = 0; place < 5; place++) {
            for (int more : new int[] {-2, 1, 100}) {
                Checks.fill(x, 0, 0, 1, 1, 0, 4);
                int number = (int) x.element(0, place) + more;
                x.put(0, place, number);
                due(number + " at " + place, x.book(0, 1), number == -1 ? -2 : place);
            }
        }
        Checks.fill(x, 0, 1, 1, 1, 0, 3);
        due("the first of two", x.book(0, 1), 0);
        Checks.fill(x, 0, 0, 1, 1, 0, 4);
        due("none", x.book(0, 1), -2);
        Checks.tell(x, "1");
        due("by THE LAW", x.book(0, 1), 2);
        Checks.fill(x, 0, 0, 1, 2, 3, 4);
        due("none by THE LAW", x.book(0, 1), -2);
        x.leave(4);
        x.leave(0);
        due("of those who are in now", x.book(0, 1), -2);
        Checks.tell(x, "a>b");
        due("of those who are in now", x.book(0, 1), 1);
    }

    private static void smearedAreSo() {
        TallerAhead x = Checks.five();
        Checks.fill(x, 0, -1, -1, -1, -1, -1);
        due("all smeared", x.book(0, 1), -2);
        Checks.fill(x, 0, -1, -1, -1, -1, 3);
        due("all but the last", x.book(0, 1), 4);
        Checks.fill(x, 0, 0, -1, -2, 0, 4);
        due("-2 is not smeared", x.book(0, 1), 2);
    }

    private static void endsBefore() {
        TallerAhead x = Checks.five();
        for (int n = 0; n <= 5; n++) {
            x.row(0, 0, n);
            for (int i = 0; i < n; i++) {
                x.put(0, i, x.of(i, 12));
            }
            due("none FALSE of " + n, x.book(0, 0), -2);
            due("none JUDGED of " + n, x.book(0, 1), -2);
            if (n > 0) {
                x.put(0, n - 1, n);
                due("the last of " + n + " FALSE", x.book(0, 0), n - 1);
                due("the last of " + n + " JUDGED", x.book(0, 1), n - 1);
            }
        }
    }

    private static void behindTheQueue() {
        TallerAhead x = Checks.five();
        Checks.fill(x, 0, 0, 1, 1, 0, 4, -128);
        due("FALSE", x.book(0, 0), -2);
        due("JUDGED", x.book(0, 1), -2);
        x.row(0, 0, 60);
        Checks.tell(x, "0");
        x.put(0, 5, 127);
        x.put(0, 59, -2);
        due("FALSE of the longest", x.book(0, 0), -2);
        due("JUDGED of the longest", x.book(0, 1), -2);
        for (int k = 0; k < 5; k++) {
            x.serve();
        }
        x.put(0, 0, 1);
        due("FALSE of nobody", x.book(0, 0), -2);
        due("JUDGED of nobody", x.book(0, 1), -2);
    }

    private static void restoredRefused() {
        TallerAhead x = Checks.five();
        Checks.wantsBytes(x, (t, shelf) -> t.restored(shelf, 0));
        for (int place : new int[] {-1, 5, 9, MIN, MAX}) {
            due("PLACE ahead of -11", x.restored(0, place), -1);
            x.row(1, 2, 5);
            due("PLACE ahead of -12", x.restored(1, place), -1);
            x.row(2, 0, 4);
            due("PLACE ahead of STATE", x.restored(2, place), -1);
            x.row(3, 0, 5);
            due("PLACE", x.restored(3, place), -1);
        }
        due("the first PLACE", x.restored(3, 0), 4);
        due("the last PLACE", x.restored(3, 4), 3);
        TallerAhead y = new TallerAhead();
        y.row(0, 0, 0);
        due("nobody's first PLACE", y.restored(0, 0), -1);
    }

    private static void restoredOfNoSuchBook() {
        TallerAhead x = Checks.five();
        int[][] books = {
            {}, {0, 0, 0, 0}, {0, 0, 0, 0, 0, 0}, {0, 0, 0, 0, 0, -1}, {-1, 0, 0, 0, 0}, {0, 0, 0, 0, -1}, {1, 0, 0, 0, 0}, {0, 2, 0, 0, 0},
            {0, 0, 0, 0, 5}, {0, 0, -2, 0, 0}, {-128, 0, 0, 0, 0}, {0, 0, 0, 0, 127},
        };
        for (int[] book : books) {
            Checks.fill(x, 0, book);
            for (int place = 0; place < 5; place++) {
                due(Arrays.toString(book), x.restored(0, place), -5);
            }
        }
    }

    private static void restoredAtTheEdges() {
        TallerAhead x = Checks.nine();
        x.row(0, 0, 9);
        for (int place = 0; place < 9; place++) {
            due("the least numbers", x.restored(0, place), 8 - place);
        }
        for (int place = 0; place < 9; place++) {
            x.put(0, place, place);
        }
        for (int place = 0; place < 9; place++) {
            due("the greatest numbers", x.restored(0, place), place);
        }
        due("only in thought", x.count(2), 0);
        TallerAhead y = Checks.street(50);
        y.row(0, 0, 1);
        due("one alone", y.restored(0, 0), 0);
    }

    private static void waysRefused() {
        TallerAhead x = Checks.five();
        for (int d : new int[] {-1, 0, 36}) {
            Checks.wantsBytes(x, (t, shelf) -> t.ways(shelf, d));
        }
        for (int d : new int[] {-2, 37, MIN, MAX}) {
            due("d ahead of -11", x.ways(0, d), -1);
            x.row(1, 3, 5);
            due("d ahead of -12", x.ways(1, d), -1);
            x.row(2, 0, 4);
            due("d ahead of STATE", x.ways(2, d), -1);
            x.row(3, 0, 5);
            due("d", x.ways(3, d), -1);
        }
    }

    private static void waysOfNoSuchBook() {
        TallerAhead x = Checks.five();
        int[][] books = {{}, {-1, -1, -1, -1}, {1, -1, -1, -1, -1}, {-1, -1, -1, -1, 5}, {-1, -2, -1, -1, -1}, {-1, -1, -1, -1, -2, 0}};
        for (int[] book : books) {
            Checks.fill(x, 0, book);
            due(Arrays.toString(book), x.ways(0, -1), -5);
            due(Arrays.toString(book), x.ways(0, 0), -5);
            due(Arrays.toString(book), x.ways(0, 36), -5);
        }
        Checks.fill(x, 0, -1, -1, -1, -1, -1, -2, 99, -1);
        due("what is behind does not count", x.ways(0, -1), 120);
        due("what is behind does not count", x.ways(0, 10), 1);
    }

    private static void leastAndMostWays() {
        TallerAhead x = Checks.nine();
        Checks.fill(x, 0, -1, -1, -1, -1, -1, -1, -1, -1, -1);
        due("all smeared", x.ways(0, -1), 362880);
        Checks.fill(x, 0, 0, 1, 2, 3, 4, 5, 6, 7, 8);
        due("none smeared", x.ways(0, -1), 1);
        for (int place = 0; place < 9; place++) {
            x.put(0, place, -1);
            due("smeared at " + place, x.ways(0, -1), place + 1);
            x.put(0, place, 0);
        }
        TallerAhead y = Checks.street(50);
        y.serve();
        y.row(0, 0, 0);
        due("nobody", y.ways(0, -1), 1);
        Checks.fill(y, 0, -1);
        due("nobody, and one smeared behind", y.ways(0, -1), 1);
    }

    private static void waysByDisquiet() {
        TallerAhead x = Checks.nine();
        Checks.fill(x, 0, -1, -1, -1, -1, -1, -1, -1, -1, -1);
        due("0 of all", x.ways(0, 0), 1);
        due("1 of all", x.ways(0, 1), 8);
        due("35 of all", x.ways(0, 35), 8);
        due("36 of all", x.ways(0, 36), 1);
        int sum = 0;
        for (int d = 0; d <= 36; d++) {
            sum += x.ways(0, d);
        }
        due("all together", sum, 362880);
        Checks.fill(x, 0, 0, 1, 2, 3, 4, 5, 6, 7, 8);
        due("35 of none smeared", x.ways(0, 35), 0);
        due("36 of none smeared", x.ways(0, 36), 1);
        Checks.fill(x, 0, 0, 0, 0, 0, 0, 0, 0, 0, 0);
        due("0 of none smeared", x.ways(0, 0), 1);
        due("1 of none smeared", x.ways(0, 1), 0);
        Checks.fill(x, 0, 0, 1, -1, 0, -1, 0, 0, 0, 0);
        int[] due = {0, 1, 2, 3, 3, 3, 2, 1, 0};
        for (int d = 0; d < due.length; d++) {
            due(d + " of two smeared", x.ways(0, d), due[d]);
        }
    }

    private static void gapRefused() {
        TallerAhead x = Checks.five();
        Checks.wantsBytes(x, (t, shelf) -> t.gap(shelf, 0, 0));
        Checks.wantsBytes(x, (t, shelf) -> t.gap(shelf, 36, 1));
        for (int what : new int[] {-1, 2, MIN, MAX}) {
            due("what ahead of -11", x.gap(0, 0, what), -1);
            x.row(1, 4, 5);
            due("what ahead of -12", x.gap(1, 0, what), -1);
            x.row(2, 0, 5);
            due("what ahead of STATE", x.gap(2, 0, what), -1);
            Checks.fill(x, 3, 0, 0, -1, 0, 0);
            due("what", x.gap(3, 0, what), -1);
        }
    }

    private static void gapByNoDisquiet() {
        TallerAhead x = Checks.five();
        for (int d : new int[] {-1, -2, 37, MIN, MAX}) {
            due("d ahead of -11", x.gap(0, d, 0), -1);
            x.row(1, 1, 5);
            due("d ahead of -12", x.gap(1, d, 1), -1);
            x.row(2, 0, 5);
            due("d ahead of STATE", x.gap(2, d, 0), -1);
            Checks.fill(x, 3, 0, 0, -1, 0, 0);
            due("d", x.gap(3, d, 1), -1);
        }
        due("0", x.gap(3, 0, 0), 0);
        due("36", x.gap(3, 36, 0), -2);
    }

    private static void notJustOneSmeared() {
        TallerAhead x = Checks.five();
        int[][] books = {
            {}, {0, 0, -1, 0}, {0, 0, 0, 0, 0}, {0, 0, 0, 0, 0, -1}, {-1, 0, 0, 0, -1}, {-1, -1, -1, -1, -1}, {1, -1, 0, 0, 0},
            {0, -1, 0, 0, 5}, {0, -1, -2, 0, 0},
        };
        for (int[] book : books) {
            Checks.fill(x, 0, book);
            due(Arrays.toString(book), x.gap(0, 0, 0), -5);
            due(Arrays.toString(book), x.gap(0, 0, 1), -5);
            due("STATE ahead of NOT", x.gap(0, 36, 0), -5);
        }
        Checks.fill(x, 0, 0, 0, -1, 0, 0, -1, -2);
        due("just one, and others behind", x.gap(0, 2, 0), 2);
        TallerAhead y = new TallerAhead();
        Checks.fill(y, 0, -1);
        due("nobody", y.gap(0, 0, 0), -5);
    }

    private static void gapCannotBe() {
        TallerAhead x = Checks.five();
        Checks.fill(x, 0, 0, 1, -1, 0, 4);
        for (int what = 0; what < 2; what++) {
            for (int d : new int[] {0, 4, 8, 36}) {
                due("d " + d, x.gap(0, d, what), -2);
            }
        }
        due("least", x.gap(0, 5, 0), 0);
        due("most", x.gap(0, 7, 0), 2);
        Checks.fill(x, 0, -1, 0, 0, 0, 0);
        due("the front's", x.gap(0, 0, 0), 0);
        due("more than the front's", x.gap(0, 1, 0), -2);
    }

    private static void gapAtTheEdges() {
        TallerAhead x = Checks.nine();
        Checks.fill(x, 0, 0, 1, 2, 3, 4, 5, 6, 7, -1);
        for (int number = 0; number <= 8; number++) {
            due("the last one's number", x.gap(0, 28 + number, 0), number);
            due("who", x.gap(0, 28 + number, 1), number);
        }
        due("one less", x.gap(0, 27, 0), -2);
        Checks.fill(x, 0, -1, 1, 2, 3, 4, 5, 6, 7, 8);
        due("the first one's number", x.gap(0, 36, 0), 0);
        due("who", x.gap(0, 36, 1), 0);
        due("the BOOK stays", x.element(0, 0), -1);
        TallerAhead y = Checks.street(50);
        Checks.fill(y, 0, -1);
        due("one alone", y.gap(0, 0, 0), 0);
        due("who", y.gap(0, 0, 1), 0);
    }

    private static void rowsOfNoDisquiet() {
        TallerAhead x = Checks.nine();
        for (int d : new int[] {-1, -2, 37, MIN, MAX}) {
            due("d " + d, x.rows(d), -1);
        }
        due("0", x.rows(0), 1);
        due("36", x.rows(36), 1);
    }

    private static void rowsByPeople() {
        TallerAhead x = Checks.nine();
        int[] orders = {1, 1, 2, 6, 24, 120, 720, 5040, 40320, 362880};
        for (int people = 9; people >= 0; people--) {
            int most = people * (people - 1) / 2;
            int sum = 0;
            for (int d = 0; d <= 36; d++) {
                sum += x.rows(d);
            }
            due("all rows of " + people, sum, orders[people]);
            due("rows in order of " + people, x.rows(0), 1);
            due("rows the other way round of " + people, x.rows(most), 1);
            due("more than there can be of " + people, x.rows(most + 1), people == 9 ? -1 : 0);
            if (people > 1) {
                due("one change from order of " + people, x.rows(1), people - 1);
                due("one less than most of " + people, x.rows(most - 1), people - 1);
            }
            x.serve();
        }
    }

    private static void rthRefused() {
        TallerAhead x = Checks.five();
        for (int d : new int[] {-1, 37, MIN, MAX}) {
            due("d " + d, x.rth(d, 0, 0), -1);
        }
        for (int r : new int[] {-1, -2, MIN}) {
            due("r " + r, x.rth(0, r, 0), -1);
        }
        for (int place : new int[] {-1, 5, 9, MIN, MAX}) {
            due("PLACE " + place, x.rth(0, 0, place), -1);
            due("BAD ahead of NOT", x.rth(0, 1, place), -1);
        }
        due("BAD ahead of NOT", x.rth(37, MAX, 0), -1);
        due("nobody's PLACE", new TallerAhead().rth(0, 0, 0), -1);
    }

    private static void notAsManyRows() {
        TallerAhead x = Checks.five();
        int[] rows = {1, 4, 9, 15, 20, 22, 20, 15, 9, 4, 1};
        for (int d = 0; d < rows.length; d++) {
            due("the last of " + d, x.rth(d, rows[d] - 1, 0) >= 0 ? 1 : 0, 1);
            due("one more of " + d, x.rth(d, rows[d], 0), -2);
        }
        due("none of 11", x.rth(11, 0, 0), -2);
        due("none of 36", x.rth(36, 0, 4), -2);
        due("far more", x.rth(5, MAX, 0), -2);
        TallerAhead y = Checks.nine();
        due("the last of 18", y.rth(18, 29227, 0) >= 0 ? 1 : 0, 1);
        due("one more of 18", y.rth(18, 29228, 0), -2);
        due("one more of 36", y.rth(36, 1, 0), -2);
    }

    private static void rowIs(TallerAhead x, int d, int r, int... who) {
        for (int place = 0; place < who.length; place++) {
            due(r + "-th of " + d + " at " + place, x.rth(d, r, place), who[place]);
        }
    }

    private static void firstAndLastRow() {
        // By HEIGHTS: 4, 1, 2, 0, 3.
        TallerAhead x = Checks.five();
        rowIs(x, 0, 0, 4, 1, 2, 0, 3);
        rowIs(x, 1, 0, 4, 1, 2, 3, 0);
        rowIs(x, 1, 3, 1, 4, 2, 0, 3);
        rowIs(x, 9, 0, 0, 3, 2, 1, 4);
        rowIs(x, 9, 3, 3, 0, 2, 4, 1);
        rowIs(x, 10, 0, 3, 0, 2, 1, 4);
        TallerAhead y = Checks.nine();
        rowIs(y, 0, 0, 8, 7, 6, 5, 4, 3, 2, 1, 0);
        rowIs(y, 36, 0, 0, 1, 2, 3, 4, 5, 6, 7, 8);
        rowIs(y, 1, 0, 8, 7, 6, 5, 4, 3, 2, 0, 1);
        rowIs(y, 1, 7, 7, 8, 6, 5, 4, 3, 2, 1, 0);
        TallerAhead z = Checks.street(50);
        rowIs(z, 0, 0, 0);
        y.leave(4);
        rowIs(y, 28, 0, 0, 1, 2, 3, 5, 6, 7, 8);
        due("only in thought", y.count(2), 1);
    }
}
