import java.util.Arrays;

/** A queue in which each says how many ahead of it count; DOC.md numbers what is promised. */
public final class TallerAhead {
    public static final int BAD = -1, NOT = -2, FULL = -3, STATE = -5, VOID = -2000000000;

    private static final int NOTHING_THERE = -11, OTHER_KIND = -12, NO_PLACE = -13, SIZE_BELOW_0 = -14;
    private static final int MOST_PEOPLE = 9, MOST_DISQUIET = 36;
    private static final int ALL_RIGHT = 0, SMEARED = -1;

    private final Crowd crowd;
    private final Line queue;
    private final Law text;
    private final Judge judge;
    private final Deeds deeds;
    private final Mendings mendings;
    private final Line picture;
    private boolean hasPicture;
    private final Shelves shelves;
    private final Books books;
    private final Thoughts thoughts;
    private final Heads heads;

    public TallerAhead() {
        crowd = new Crowd();
        queue = new Line();
        text = new Law();
        judge = new Judge(crowd, text);
        deeds = new Deeds(judge);
        mendings = new Mendings();
        picture = new Line();
        shelves = new Shelves();
        books = new Books(crowd, shelves);
        thoughts = new Thoughts(crowd, judge);
        heads = new Heads();
    }

    // ---- people, the queue

    public int person(int height) {
        int number = crowd.come(height);
        if (number >= 0) {
            queue.insert(number, queue.size());
        }
        return number;
    }

    public int people(int shelf, int i, int n) {
        if (!shelves.isShelf(shelf) || n < 1 || n > MOST_PEOPLE) {
            return BAD;
        }
        int refusal = shelves.refusalOfBytes(shelf);
        if (refusal == OTHER_KIND) {
            return refusal;
        }
        // A missing row, and a place outside of the row, are no refusals: nobody comes from there.
        if (refusal != ALL_RIGHT || i < 0) {
            return 0;
        }
        int came = 0;
        for (int k = i; k < shelves.sizeOf(shelf) && came < n; k++) {
            if (person((int) shelves.valueAt(shelf, k)) < 0) {
                break;
            }
            came++;
        }
        return came;
    }

    public int mend(int person, int v) {
        if (!crowd.isPerson(person) || !crowd.isFree(v, person)) {
            return BAD;
        }
        int was = crowd.heightOf(person);
        if (v != was) {
            mendings.add(person, was, v);
            changeHeight(person, v);
        }
        return was;
    }

    public int of(int number, int what) {
        if (what >= 0 && what <= 4) {
            return crowd.isPerson(number) ? tellOfPerson(number, what) : BAD;
        }
        if (what >= 10 && what <= 12) {
            return queue.isPlace(number) ? tellOfPlace(number, what) : BAD;
        }
        return BAD;
    }

    public int feed(int letter) {
        if (letter < 0 || letter > 255) {
            return BAD;
        }
        return text.take(letter);
    }

    public int law() {
        int fault = text.enact();
        if (fault >= 0) {
            return -100 - fault;
        }
        judge.forgetAll();
        return 1;
    }

    public int disquiet(int what) {
        switch (what) {
            case 0:
                return judge.disquietOf(queue);
            case 1:
                return judge.plainDisquietOf(queue);
            case 2:
                return judge.costOf(queue);
            default:
                return BAD;
        }
    }

    // ---- in deed

    public int swap(int i) {
        if (i < 0 || i > queue.size() - 2) {
            return BAD;
        }
        deeds.begin(queue);
        queue.exchange(i, i + 1);
        deeds.end(queue);
        return judge.disquietOf(queue);
    }

    public int enter(int person, int place) {
        if (!crowd.isPerson(person) || place < 0 || place > queue.size()) {
            return BAD;
        }
        if (queue.placeOf(person) >= 0) {
            return STATE;
        }
        deeds.begin(queue);
        queue.insert(person, place);
        deeds.end(queue);
        return judge.disquietOf(queue);
    }

    public int leave(int place) {
        if (!queue.isPlace(place)) {
            return BAD;
        }
        return takeOut(place);
    }

    public int serve() {
        if (queue.size() == 0) {
            return STATE;
        }
        return takeOut(0);
    }

    public int grow(int person, int d) {
        if (!crowd.isPerson(person) || d < 1 || d > 20) {
            return BAD;
        }
        int height = crowd.heightGrown(person, d);
        if (!crowd.isFree(height, person)) {
            return BAD;
        }
        deeds.begin(queue);
        changeHeight(person, height);
        deeds.end(queue);
        return height;
    }

    public int restore(int shelf) {
        if (!shelves.isShelf(shelf)) {
            return BAD;
        }
        int refusal = books.refusalToRestore(shelf, queue);
        if (refusal != ALL_RIGHT) {
            return refusal;
        }
        deeds.begin(queue);
        queue.copyFrom(books.lineRestored(queue));
        deeds.end(queue);
        return 1;
    }

    public int was(int k, int place) {
        if (!deeds.isKept(k) || !deeds.lineAhead(k).isPlace(place)) {
            return BAD;
        }
        return deeds.lineAhead(k).at(place);
    }

    public int again(int k) {
        if (!deeds.isKept(k)) {
            return BAD;
        }
        queue.copyFrom(deeds.lineAhead(k));
        deeds.forget(k);
        return deeds.size();
    }

    // ---- books

    public int book(int shelf, int what) {
        if (!shelves.isShelf(shelf) || what < 0 || what > 1) {
            return BAD;
        }
        int refusal = shelves.refusalOfBytes(shelf);
        if (refusal != ALL_RIGHT) {
            return refusal;
        }
        books.open(shelf, queue);
        return what == 0 ? books.firstFalse() : books.firstUnlike(judge, queue);
    }

    public int restored(int shelf, int place) {
        if (!shelves.isShelf(shelf) || !queue.isPlace(place)) {
            return BAD;
        }
        int refusal = books.refusalToRestore(shelf, queue);
        return refusal != ALL_RIGHT ? refusal : books.lineRestored(queue).at(place);
    }

    public int ways(int shelf, int d) {
        if (!shelves.isShelf(shelf) || (d != -1 && !Books.isDisquiet(d))) {
            return BAD;
        }
        int refusal = books.refusalToFill(shelf, queue);
        if (refusal != ALL_RIGHT) {
            return refusal;
        }
        return d < 0 ? books.allFillings() : books.fillingsOf(d);
    }

    public int gap(int shelf, int d, int what) {
        if (!shelves.isShelf(shelf) || !Books.isDisquiet(d) || what < 0 || what > 1) {
            return BAD;
        }
        int refusal = books.refusalToFill(shelf, queue);
        if (refusal != ALL_RIGHT) {
            return refusal;
        }
        if (books.smearedOnes() != 1) {
            return STATE;
        }
        int place = books.firstSmeared();
        int others = books.sumOfNumbers();
        if (d < others || d > others + place) {
            return NOT;
        }
        int number = d - others;
        if (what == 0) {
            return number;
        }
        books.fill(place, number);
        return books.lineRestored(queue).at(place);
    }

    public int rows(int d) {
        if (!Books.isDisquiet(d)) {
            return BAD;
        }
        return books.rowsOf(queue.size(), d);
    }

    public int rth(int d, int r, int place) {
        if (!Books.isDisquiet(d) || r < 0 || !queue.isPlace(place)) {
            return BAD;
        }
        if (r >= books.rowsOf(queue.size(), d)) {
            return NOT;
        }
        return books.inRow(queue, d, r, place);
    }

    // ---- in thought

    public int calm(int what) {
        if (what < 0 || what > 1) {
            return BAD;
        }
        return thoughts.calmest(queue, what == 0);
    }

    public int where(int person, int what) {
        if (!crowd.isPerson(person) || what < 0 || what > 3) {
            return BAD;
        }
        if (queue.placeOf(person) >= 0) {
            return STATE;
        }
        if (what == 1 || what == 3) {
            // At the front nobody is ahead: the least PLACE, and its NUMBER there, are both 0.
            return 0;
        }
        return thoughts.bestEntry(queue, person, what == 0);
    }

    public int growth(int person) {
        if (!crowd.isPerson(person)) {
            return BAD;
        }
        int place = queue.placeOf(person);
        return place < 0 ? STATE : thoughts.leastGrowth(queue, place);
    }

    public int far(int shelf) {
        if (!shelves.isShelf(shelf)) {
            return BAD;
        }
        int refusal = shelves.refusalOfBytes(shelf);
        return refusal != ALL_RIGHT ? refusal : books.changesTo(shelf, queue);
    }

    public int sorted() {
        // Each change of two side by side mends just one pair of whom the taller is ahead.
        return judge.plainDisquietOf(queue);
    }

    public int right(int k) {
        if (k < -2 || k >= queue.size()) {
            return BAD;
        }
        thoughts.weighRights(queue);
        if (k == -2) {
            return thoughts.whoMayBeFirst(queue);
        }
        return k == -1 ? thoughts.ordersByRight(queue) : thoughts.servedAs(queue, k);
    }

    public int mixed(int seed, int n, int person) {
        if (n < 1 || n > 50 || person < -2 || (person >= 0 && !crowd.isPerson(person))) {
            return BAD;
        }
        return thoughts.mixings(queue, seed, n, person);
    }

    public int image() {
        picture.copyFrom(queue);
        hasPicture = true;
        return queue.size();
    }

    public int back() {
        if (!hasPicture) {
            return STATE;
        }
        queue.copyFrom(picture);
        return queue.size();
    }

    public int undo() {
        if (mendings.undoable() == 0) {
            return STATE;
        }
        int person = mendings.personToUndo();
        int height = mendings.heightToUndo();
        if (!crowd.isFree(height, person)) {
            return STATE;
        }
        changeHeight(person, height);
        mendings.stepBack();
        return mendings.undoable();
    }

    public int redo() {
        if (mendings.redoable() == 0) {
            return STATE;
        }
        int person = mendings.personToRedo();
        int height = mendings.heightToRedo();
        if (!crowd.isFree(height, person)) {
            return STATE;
        }
        changeHeight(person, height);
        mendings.stepOn();
        return mendings.redoable();
    }

    // ---- acts, shelves

    public int body(int kind) {
        return heads.add(kind);
    }

    public int act(int body, int act, int x) {
        return heads.perform(body, act, x);
    }

    public int trace(int i) {
        return heads.traced(i);
    }

    public int keep(int shelf, int body) {
        if (!shelves.isShelf(shelf) || (body != -1 && !heads.isHead(body))) {
            return BAD;
        }
        shelves.hold(shelf, body);
        return 1;
    }

    public int row(int shelf, int sort, int n) {
        if (!shelves.isShelf(shelf) || sort < Shelves.BYTES || sort > Shelves.BOOLEANS || n > Shelves.LONGEST) {
            return BAD;
        }
        if (n < 0) {
            return SIZE_BELOW_0;
        }
        shelves.holdRow(shelf, sort, n);
        return 1;
    }

    public int put(int shelf, int i, long v) {
        int refusal = refusalOfElement(shelf, i);
        if (refusal != ALL_RIGHT) {
            return refusal;
        }
        shelves.change(shelf, i, v);
        return 1;
    }

    public long element(int shelf, int i) {
        return refusalOfElement(shelf, i) != ALL_RIGHT ? Long.MIN_VALUE : shelves.valueAt(shelf, i);
    }

    public int shift(int shelf, int i, int other, int j, int n) {
        if (!shelves.isShelf(shelf) || !shelves.isShelf(other)) {
            return BAD;
        }
        if (shelves.isBare(shelf) || shelves.isBare(other)) {
            return NOTHING_THERE;
        }
        if (!shelves.isRow(shelf) || !shelves.isRow(other) || shelves.sortOf(shelf) != shelves.sortOf(other)) {
            return OTHER_KIND;
        }
        if (!shelves.hasStretch(shelf, i, n) || !shelves.hasStretch(other, j, n)) {
            return NO_PLACE;
        }
        shelves.copy(shelf, i, other, j, n);
        return n;
    }

    public int taken(int shelf, int k) {
        if (!shelves.isShelf(shelf) || !Heads.isKind(k)) {
            return BAD;
        }
        if (shelves.isBare(shelf)) {
            return NOTHING_THERE;
        }
        if (shelves.isRow(shelf)) {
            return OTHER_KIND;
        }
        int kind = heads.kindOf(shelves.headOn(shelf));
        return Heads.isUnder(kind, k) ? kind : OTHER_KIND;
    }

    public int count(int what) {
        switch (what) {
            case 0:
                return crowd.size();
            case 1:
                return queue.size();
            case 2:
                return deeds.size();
            case 3:
                return text.bytes();
            case 4:
                return mendings.undoable();
            case 5:
                return heads.size();
            case 6:
                return heads.ran();
            default:
                return BAD;
        }
    }

    // ---- what several calls share

    private int tellOfPerson(int person, int what) {
        int place = queue.placeOf(person);
        switch (what) {
            case 0:
                return crowd.heightOf(person);
            case 1:
                return place;
            case 2:
                return place < 0 ? NOT : judge.numberAt(queue, place);
            case 3:
                return deeds.changesOf(person);
            default:
                return deeds.greatestOf(person);
        }
    }

    private int tellOfPlace(int place, int what) {
        switch (what) {
            case 10:
                return queue.at(place);
            case 11:
                return judge.numberAt(queue, place);
            default:
                return judge.plainNumberAt(queue, place);
        }
    }

    private int takeOut(int place) {
        deeds.begin(queue);
        int who = queue.removeAt(place);
        deeds.end(queue);
        return who;
    }

    private void changeHeight(int person, int height) {
        crowd.setHeight(person, height);
        judge.forgetAll();
    }

    private int refusalOfElement(int shelf, int i) {
        if (!shelves.isShelf(shelf)) {
            return BAD;
        }
        if (shelves.isBare(shelf)) {
            return NOTHING_THERE;
        }
        if (!shelves.isRow(shelf)) {
            return OTHER_KIND;
        }
        return i < 0 || i >= shelves.sizeOf(shelf) ? NO_PLACE : ALL_RIGHT;
    }

    /** PEOPLE and their HEIGHTS. */
    private static final class Crowd {
        private static final int TALLEST = 99;

        private final int[] heights;
        private int people;

        Crowd() {
            heights = new int[MOST_PEOPLE];
        }

        int size() {
            return people;
        }

        boolean isPerson(int person) {
            return person >= 0 && person < people;
        }

        int heightOf(int person) {
            return isPerson(person) ? heights[person] : 0;
        }

        void setHeight(int person, int height) {
            if (isPerson(person)) {
                heights[person] = height;
            }
        }

        boolean isTaller(int one, int other) {
            return isPerson(one) && isPerson(other) && heights[one] > heights[other];
        }

        /** Whether it is a HEIGHT that nobody but this one has. */
        boolean isFree(int height, int person) {
            return height >= 1 && height <= TALLEST && !isOfAnother(height, person);
        }

        int heightGrown(int person, int d) {
            int height = heightOf(person) + d;
            // Each step goes past one other at least, so as many steps as there are people are enough.
            for (int k = 0; k < people && isOfAnother(height, person); k++) {
                height++;
            }
            return height;
        }

        int come(int height) {
            if (!isFree(height, -1)) {
                return BAD;
            }
            if (people >= MOST_PEOPLE) {
                return FULL;
            }
            heights[people] = height;
            people++;
            return people - 1;
        }

        private boolean isOfAnother(int height, int person) {
            for (int k = 0; k < people; k++) {
                if (k != person && heights[k] == height) {
                    return true;
                }
            }
            return false;
        }
    }

    /** Some people in a row, nobody twice. */
    private static final class Line {
        private final int[] who;
        private int length;

        Line() {
            who = new int[MOST_PEOPLE];
        }

        int size() {
            return length;
        }

        boolean isPlace(int place) {
            return place >= 0 && place < length;
        }

        int at(int place) {
            return isPlace(place) ? who[place] : NOT;
        }

        int placeOf(int person) {
            for (int place = 0; place < length; place++) {
                if (who[place] == person) {
                    return place;
                }
            }
            return NOT;
        }

        void clear() {
            length = 0;
        }

        void copyFrom(Line other) {
            System.arraycopy(other.who, 0, who, 0, MOST_PEOPLE);
            length = other.length;
        }

        void setAt(int place, int person) {
            if (isPlace(place)) {
                who[place] = person;
            }
        }

        void exchange(int i, int j) {
            if (isPlace(i) && isPlace(j)) {
                int one = who[i];
                who[i] = who[j];
                who[j] = one;
            }
        }

        void insert(int person, int place) {
            if (place < 0 || place > length || length >= MOST_PEOPLE) {
                return;
            }
            for (int k = length; k > place; k--) {
                who[k] = who[k - 1];
            }
            who[place] = person;
            length++;
        }

        int removeAt(int place) {
            if (!isPlace(place)) {
                return NOT;
            }
            int person = who[place];
            for (int k = place; k < length - 1; k++) {
                who[k] = who[k + 1];
            }
            length--;
            return person;
        }
    }

    /** THE TAPE, and THE LAW as steps: numbers from 0 on stand for themselves, signs are below 0. */
    private static final class Law {
        private static final int LONGEST = 120;

        private final int[] tape;
        private int fed;
        private final LawReader reader;
        private final int[] steps;
        private int length;
        private final int[] worked;
        private int top;

        Law() {
            tape = new int[LONGEST];
            reader = new LawReader(LONGEST);
            steps = new int[LONGEST + 1];
            worked = new int[LONGEST + 1];
        }

        int bytes() {
            return fed;
        }

        boolean isTold() {
            return length > 0;
        }

        int take(int letter) {
            if (fed >= LONGEST) {
                return FULL;
            }
            tape[fed] = letter;
            fed++;
            return fed;
        }

        /** Makes THE TAPE the law and empties it: NOT, or the FAULT, with which the law stays. */
        int enact() {
            int fault = reader.read(tape, fed);
            fed = 0;
            if (fault < 0) {
                length = reader.copySteps(steps);
            }
            return fault;
        }

        int worth(int a, int b, int g, int p, int q) {
            top = 0;
            boolean isPassed = false;
            for (int k = 0; k < length; k++) {
                int step = steps[k];
                if (isPassed) {
                    // What is left of a LINE whose first E is 0.
                    isPassed = step != -';';
                    continue;
                }
                if (step >= 0) {
                    push(step);
                    continue;
                }
                switch (-step) {
                    case ';':
                        return pop();
                    case '?':
                        isPassed = pop() == 0;
                        break;
                    case '!':
                        push(pop() == 0 ? 1 : 0);
                        break;
                    case LawReader.NEGATE:
                        push(-pop());
                        break;
                    case 'a': case 'b': case 'g': case 'p': case 'q':
                        push(named(-step, a, b, g, p, q));
                        break;
                    default:
                        int second = pop();
                        push(joined(-step, pop(), second));
                        break;
                }
            }
            return 0;
        }

        private void push(int value) {
            if (top < worked.length) {
                worked[top] = value;
                top++;
            }
        }

        private int pop() {
            if (top <= 0) {
                return 0;
            }
            top--;
            return worked[top];
        }

        private static int named(int name, int a, int b, int g, int p, int q) {
            switch (name) {
                case 'a':
                    return a;
                case 'b':
                    return b;
                case 'g':
                    return g;
                case 'p':
                    return p;
                default:
                    return q;
            }
        }

        private static int joined(int sign, int x, int y) {
            switch (sign) {
                case '|':
                    return x != 0 || y != 0 ? 1 : 0;
                case '&':
                    return x != 0 && y != 0 ? 1 : 0;
                case '<':
                    return x < y ? 1 : 0;
                case '=':
                    return x == y ? 1 : 0;
                case '>':
                    return x > y ? 1 : 0;
                case '+':
                    return x + y;
                case '-':
                    return x - y;
                case '*':
                    return x * y;
                case '/':
                    return y == 0 ? 0 : x / y;
                case '%':
                    return y == 0 ? 0 : x % y;
                default:
                    return 0;
            }
        }
    }

    /** Reads a TEXT, byte by byte, into steps in the order in which they are worked out. */
    private static final class LawReader {
        /** Stands for the - ahead of an O, so that it is told from the one between two. */
        static final int NEGATE = '~';

        private static final int MOST_OPEN = 6, MOST_DIGITS = 4;
        private static final int COMPARING = 3, PREFIX = 6;

        private final int[] steps;
        private int length;
        private final int[] waiting;
        private int waits;
        private int open;
        private boolean wantsOperand;
        private boolean isAsked;

        LawReader(int longest) {
            // Each byte gives one step at most, the end of the last LINE one more.
            steps = new int[longest + 1];
            waiting = new int[longest];
        }

        /** The FAULT, or NOT if there is none. */
        int read(int[] tape, int fed) {
            int size = Math.min(fed, tape.length);
            length = 0;
            waits = 0;
            open = 0;
            wantsOperand = true;
            isAsked = false;
            int at = 0;
            while (at < size) {
                int letter = tape[at];
                if (wantsOperand && isDigit(letter)) {
                    at += Math.max(readNumber(tape, at, size), 1);
                } else if (wantsOperand ? takesOperand(letter) : takesSign(letter)) {
                    at++;
                } else {
                    return at;
                }
                if (!wantsOperand) {
                    // Behind an O the ! and - ahead of it are worked out and no longer open.
                    open -= releaseDownTo(PREFIX);
                }
            }
            if (wantsOperand || open > 0) {
                return size;
            }
            releaseDownTo(1);
            addStep(-';');
            return NOT;
        }

        int copySteps(int[] target) {
            int copied = Math.min(length, target.length);
            System.arraycopy(steps, 0, target, 0, copied);
            return copied;
        }

        private int readNumber(int[] tape, int from, int size) {
            int number = 0;
            int digits = 0;
            while (digits < MOST_DIGITS && from + digits < size && isDigit(tape[from + digits])) {
                number = number * 10 + tape[from + digits] - '0';
                digits++;
            }
            addStep(number);
            wantsOperand = false;
            return digits;
        }

        private boolean takesOperand(int letter) {
            switch (letter) {
                case 'a': case 'b': case 'g': case 'p': case 'q':
                    addStep(-letter);
                    wantsOperand = false;
                    return true;
                case '(': case '!':
                    return takesOpening(letter);
                case '-':
                    return takesOpening(NEGATE);
                default:
                    return false;
            }
        }

        private boolean takesOpening(int sign) {
            if (open >= MOST_OPEN) {
                return false;
            }
            open++;
            putOff(sign);
            return true;
        }

        private boolean takesSign(int letter) {
            switch (letter) {
                case ')':
                    return takesClosing();
                case '?': case ';':
                    return takesPart(letter);
                default:
                    return takesJoining(letter);
            }
        }

        private boolean takesJoining(int letter) {
            int rank = rankOf(letter);
            // What stands ahead of an O joins no two.
            if (rank == 0 || rank == PREFIX) {
                return false;
            }
            // Two comparisons side by side are none of the grammar's.
            releaseDownTo(rank == COMPARING ? rank + 1 : rank);
            if (rank == COMPARING && waits > 0 && rankOf(waiting[waits - 1]) == COMPARING) {
                return false;
            }
            putOff(letter);
            wantsOperand = true;
            return true;
        }

        private boolean takesClosing() {
            if (open == 0) {
                return false;
            }
            releaseDownTo(1);
            if (waits > 0) {
                waits--;
            }
            open--;
            return true;
        }

        private boolean takesPart(int letter) {
            if (open > 0 || (letter == '?' && isAsked)) {
                return false;
            }
            releaseDownTo(1);
            addStep(-letter);
            isAsked = letter == '?';
            wantsOperand = true;
            return true;
        }

        /** Writes those that wait on top and bind at least so tightly: how many. A ( holds the others back. */
        private int releaseDownTo(int rank) {
            int released = 0;
            while (waits > 0 && rankOf(waiting[waits - 1]) >= rank) {
                waits--;
                addStep(-waiting[waits]);
                released++;
            }
            return released;
        }

        private void putOff(int sign) {
            if (waits < waiting.length) {
                waiting[waits] = sign;
                waits++;
            }
        }

        private void addStep(int step) {
            if (length < steps.length) {
                steps[length] = step;
                length++;
            }
        }

        private static boolean isDigit(int letter) {
            return letter >= '0' && letter <= '9';
        }

        private static int rankOf(int sign) {
            switch (sign) {
                case '|':
                    return 1;
                case '&':
                    return 2;
                case '<': case '=': case '>':
                    return COMPARING;
                case '+': case '-':
                    return 4;
                case '*': case '/': case '%':
                    return 5;
                case '!': case NEGATE:
                    return PREFIX;
                default:
                    return 0;
            }
        }
    }

    /** NUMBERS and DISQUIET of any line of people. */
    private static final class Judge {
        private static final int COUNTS = 1, COUNTS_NOT = 2;

        private final Crowd crowd;
        private final Law text;
        /** What THE LAW said of who is ahead, oneself and the PLACES between; 0: not asked yet. */
        private final byte[] known;

        Judge(Crowd crowd, Law text) {
            this.crowd = crowd;
            this.text = text;
            known = new byte[MOST_PEOPLE * MOST_PEOPLE * MOST_PEOPLE];
        }

        /** To be called when THE LAW or a HEIGHT has changed. */
        void forgetAll() {
            Arrays.fill(known, (byte) 0);
        }

        boolean isCounted(int ahead, int self, int gap) {
            if (!text.isTold()) {
                return crowd.isTaller(ahead, self);
            }
            int k = (ahead * MOST_PEOPLE + self) * MOST_PEOPLE + gap;
            if (k < 0 || k >= known.length) {
                return false;
            }
            if (known[k] == 0) {
                int worth = text.worth(crowd.heightOf(ahead), crowd.heightOf(self), gap, ahead, self);
                known[k] = (byte) (worth != 0 ? COUNTS : COUNTS_NOT);
            }
            return known[k] == COUNTS;
        }

        int numberAt(Line line, int place) {
            int self = line.at(place);
            int number = 0;
            for (int i = 0; i < place; i++) {
                if (isCounted(line.at(i), self, place - i)) {
                    number++;
                }
            }
            return number;
        }

        /** Whether the NUMBER at a PLACE were 0 if the one there had this HEIGHT, which may be another one's. */
        boolean isCalmIfTall(Line line, int place, int height) {
            int self = line.at(place);
            for (int i = 0; i < place; i++) {
                int other = line.at(i);
                int tall = crowd.heightOf(other);
                if (text.isTold() ? text.worth(tall, height, place - i, other, self) != 0 : tall > height) {
                    return false;
                }
            }
            return true;
        }

        int plainNumberAt(Line line, int place) {
            int self = line.at(place);
            int number = 0;
            for (int i = 0; i < place; i++) {
                if (crowd.isTaller(line.at(i), self)) {
                    number++;
                }
            }
            return number;
        }

        int disquietOf(Line line) {
            int sum = 0;
            for (int place = 1; place < line.size(); place++) {
                sum += numberAt(line, place);
            }
            return sum;
        }

        int plainDisquietOf(Line line) {
            int sum = 0;
            for (int place = 1; place < line.size(); place++) {
                sum += plainNumberAt(line, place);
            }
            return sum;
        }

        int costOf(Line line) {
            int sum = 0;
            for (int place = 1; place < line.size(); place++) {
                for (int i = 0; i < place; i++) {
                    if (isCounted(line.at(i), line.at(place), place - i)) {
                        // It costs in each minute till the one at PLACE i is served.
                        sum += i + 1;
                    }
                }
            }
            return sum;
        }
    }

    /** YESTERDAY, and how people's NUMBERS are LED by deeds. */
    private static final class Deeds {
        private static final int MOST_KEPT = 12;

        private final Judge judge;
        private final Line[] kept;
        private int first;
        private int size;
        private final int[] numbers;
        private final int[] changes;
        private final int[] greatest;

        Deeds(Judge judge) {
            this.judge = judge;
            kept = new Line[MOST_KEPT];
            for (int k = 0; k < MOST_KEPT; k++) {
                kept[k] = new Line();
            }
            numbers = new int[MOST_PEOPLE];
            changes = new int[MOST_PEOPLE];
            greatest = new int[MOST_PEOPLE];
        }

        int size() {
            return size;
        }

        void begin(Line queue) {
            if (size == MOST_KEPT) {
                first = (first + 1) % MOST_KEPT;
            } else {
                size++;
            }
            lineAhead(1).copyFrom(queue);
            Arrays.fill(numbers, NOT);
            for (int place = 0; place < queue.size(); place++) {
                int person = queue.at(place);
                if (isLed(person)) {
                    numbers[person] = judge.numberAt(queue, place);
                }
            }
        }

        /** Only who had a NUMBER and has one still can have had it changed. */
        void end(Line queue) {
            for (int place = 0; place < queue.size(); place++) {
                int person = queue.at(place);
                if (!isLed(person)) {
                    continue;
                }
                int number = judge.numberAt(queue, place);
                if (numbers[person] != NOT && numbers[person] != number) {
                    changes[person]++;
                }
                greatest[person] = Math.max(greatest[person], number);
            }
        }

        boolean isKept(int k) {
            return k >= 1 && k <= size;
        }

        Line lineAhead(int k) {
            return kept[Math.floorMod(first + size - k, MOST_KEPT)];
        }

        void forget(int k) {
            if (isKept(k)) {
                size -= k;
            }
        }

        int changesOf(int person) {
            return isLed(person) ? changes[person] : 0;
        }

        int greatestOf(int person) {
            return isLed(person) ? greatest[person] : 0;
        }

        private static boolean isLed(int person) {
            return person >= 0 && person < MOST_PEOPLE;
        }
    }

    /** CHANGES OF NUMBERS, the oldest first: those that may be UNDONE, then those to be DONE AGAIN. */
    private static final class Mendings {
        private static final int MOST_KEPT = 40;

        private final int[] whose;
        private final int[] before;
        private final int[] after;
        private int done;
        private int all;

        Mendings() {
            whose = new int[MOST_KEPT];
            before = new int[MOST_KEPT];
            after = new int[MOST_KEPT];
        }

        int undoable() {
            return done;
        }

        int redoable() {
            return all - done;
        }

        void add(int person, int was, int becomes) {
            if (done == MOST_KEPT) {
                forgetOldest();
            }
            whose[done] = person;
            before[done] = was;
            after[done] = becomes;
            done++;
            all = done;
        }

        int personToUndo() {
            return done > 0 ? whose[done - 1] : NOT;
        }

        int heightToUndo() {
            return done > 0 ? before[done - 1] : NOT;
        }

        int personToRedo() {
            return done < all ? whose[done] : NOT;
        }

        int heightToRedo() {
            return done < all ? after[done] : NOT;
        }

        void stepBack() {
            if (done > 0) {
                done--;
            }
        }

        void stepOn() {
            if (done < all) {
                done++;
            }
        }

        private void forgetOldest() {
            System.arraycopy(whose, 1, whose, 0, MOST_KEPT - 1);
            System.arraycopy(before, 1, before, 0, MOST_KEPT - 1);
            System.arraycopy(after, 1, after, 0, MOST_KEPT - 1);
            done--;
        }
    }

    /** What each SHELF holds. A ROW keeps all sorts as longs that are cut when they are put in. */
    private static final class Shelves {
        static final int BYTES = 0, SHORTS = 1, INTS = 2, BOOLEANS = 4;
        static final int LONGEST = 60;

        private static final int SHELVES = 6;
        private static final int BARE = -1, HEAD = 5;

        private final int[] sorts;
        /** Of ROWS; 0 where there is none. */
        private final int[] sizes;
        private final int[] held;
        private final long[][] elements;

        Shelves() {
            sorts = new int[SHELVES];
            Arrays.fill(sorts, BARE);
            sizes = new int[SHELVES];
            held = new int[SHELVES];
            elements = new long[SHELVES][LONGEST];
        }

        boolean isShelf(int shelf) {
            return shelf >= 0 && shelf < SHELVES;
        }

        int sortOf(int shelf) {
            return isShelf(shelf) ? sorts[shelf] : BARE;
        }

        boolean isBare(int shelf) {
            return !isShelf(shelf) || sorts[shelf] == BARE;
        }

        boolean isRow(int shelf) {
            return isShelf(shelf) && sorts[shelf] >= BYTES && sorts[shelf] <= BOOLEANS;
        }

        int sizeOf(int shelf) {
            return isShelf(shelf) ? sizes[shelf] : 0;
        }

        int headOn(int shelf) {
            return sortOf(shelf) == HEAD ? held[shelf] : NOT;
        }

        int refusalOfBytes(int shelf) {
            if (isBare(shelf)) {
                return NOTHING_THERE;
            }
            return sortOf(shelf) == BYTES ? ALL_RIGHT : OTHER_KIND;
        }

        boolean hasStretch(int shelf, int from, int n) {
            return from >= 0 && n >= 0 && from <= sizeOf(shelf) - n;
        }

        /** A HEAD, or nothing for a body of -1. */
        void hold(int shelf, int body) {
            if (isShelf(shelf)) {
                sorts[shelf] = body < 0 ? BARE : HEAD;
                sizes[shelf] = 0;
                held[shelf] = body;
            }
        }

        void holdRow(int shelf, int sort, int n) {
            if (isShelf(shelf) && n >= 0 && n <= LONGEST) {
                sorts[shelf] = sort;
                sizes[shelf] = n;
                Arrays.fill(elements[shelf], 0L);
            }
        }

        long valueAt(int shelf, int i) {
            return i >= 0 && i < sizeOf(shelf) ? elements[shelf][i] : 0L;
        }

        void change(int shelf, int i, long v) {
            if (i >= 0 && i < sizeOf(shelf)) {
                elements[shelf][i] = cut(sorts[shelf], v);
            }
        }

        void copy(int shelf, int i, int other, int j, int n) {
            if (hasStretch(shelf, i, n) && hasStretch(other, j, n)) {
                System.arraycopy(elements[shelf], i, elements[other], j, n);
            }
        }

        private static long cut(int sort, long v) {
            switch (sort) {
                case BYTES:
                    return (byte) v;
                case SHORTS:
                    return (short) v;
                case INTS:
                    return (int) v;
                case BOOLEANS:
                    return v != 0L ? 1L : 0L;
                default:
                    return v;
            }
        }
    }

    /** What ROWS of bytes tell of THE QUEUE, and how many rows of people there are. */
    private static final class Books {
        private final Crowd crowd;
        private final Shelves shelves;
        /** The numbers of the BOOK that is open, as many as there are PLACES for. */
        private final int[] numbers;
        private int size;
        private final Line left;
        private final Line result;
        private final int[] fillings;
        private final int[] spare;
        /** How many rows of so many people have so much DISQUIET. */
        private final int[][] rowCounts;

        Books(Crowd crowd, Shelves shelves) {
            this.crowd = crowd;
            this.shelves = shelves;
            numbers = new int[MOST_PEOPLE];
            left = new Line();
            result = new Line();
            fillings = new int[MOST_DISQUIET + 1];
            spare = new int[MOST_DISQUIET + 1];
            rowCounts = new int[MOST_PEOPLE + 1][MOST_DISQUIET + 1];
            countRows();
        }

        static boolean isDisquiet(int d) {
            return d >= 0 && d <= MOST_DISQUIET;
        }

        void open(int shelf, Line queue) {
            size = Math.min(shelves.sizeOf(shelf), Math.min(queue.size(), MOST_PEOPLE));
            for (int place = 0; place < size; place++) {
                numbers[place] = (int) shelves.valueAt(shelf, place);
            }
        }

        int firstFalse() {
            for (int place = 0; place < size; place++) {
                if (numbers[place] < SMEARED || numbers[place] > place) {
                    return place;
                }
            }
            return NOT;
        }

        int firstUnlike(Judge judge, Line queue) {
            for (int place = 0; place < size; place++) {
                if (numbers[place] != SMEARED && numbers[place] != judge.numberAt(queue, place)) {
                    return place;
                }
            }
            return NOT;
        }

        /** Opens the BOOK too. */
        int refusalToFill(int shelf, Line queue) {
            int refusal = shelves.refusalOfBytes(shelf);
            if (refusal != ALL_RIGHT) {
                return refusal;
            }
            open(shelf, queue);
            return size < queue.size() || firstFalse() >= 0 ? STATE : ALL_RIGHT;
        }

        /** Opens the BOOK too. */
        int refusalToRestore(int shelf, Line queue) {
            int refusal = refusalToFill(shelf, queue);
            if (refusal != ALL_RIGHT) {
                return refusal;
            }
            return shelves.sizeOf(shelf) != queue.size() || smearedOnes() > 0 ? STATE : ALL_RIGHT;
        }

        int smearedOnes() {
            int smeared = 0;
            for (int place = 0; place < size; place++) {
                if (numbers[place] == SMEARED) {
                    smeared++;
                }
            }
            return smeared;
        }

        int firstSmeared() {
            for (int place = 0; place < size; place++) {
                if (numbers[place] == SMEARED) {
                    return place;
                }
            }
            return NOT;
        }

        int sumOfNumbers() {
            int sum = 0;
            for (int place = 0; place < size; place++) {
                sum += Math.max(numbers[place], 0);
            }
            return sum;
        }

        void fill(int place, int number) {
            if (place >= 0 && place < size) {
                numbers[place] = number;
            }
        }

        /** By the open BOOK, which has a true number at each PLACE. */
        Line lineRestored(Line queue) {
            left.copyFrom(queue);
            result.copyFrom(queue);
            for (int place = size - 1; place >= 0; place--) {
                result.setAt(place, left.removeAt(placeInLeft(numbers[place])));
            }
            return result;
        }

        int allFillings() {
            int ways = 1;
            for (int place = 0; place < size; place++) {
                if (numbers[place] == SMEARED) {
                    ways *= place + 1;
                }
            }
            return ways;
        }

        int fillingsOf(int d) {
            int wanted = d - sumOfNumbers();
            if (wanted < 0 || wanted >= fillings.length) {
                return 0;
            }
            Arrays.fill(fillings, 0);
            fillings[0] = 1;
            for (int place = 0; place < size; place++) {
                if (numbers[place] == SMEARED) {
                    System.arraycopy(fillings, 0, spare, 0, fillings.length);
                    spread(spare, fillings, place);
                }
            }
            return fillings[wanted];
        }

        int rowsOf(int people, int d) {
            return people >= 0 && people <= MOST_PEOPLE && isDisquiet(d) ? rowCounts[people][d] : 0;
        }

        /** There must be an r-th row of DISQUIET d. */
        int inRow(Line queue, int d, int r, int place) {
            left.copyFrom(queue);
            int disquiet = d;
            int rank = r;
            int who = NOT;
            for (int k = 0; k <= place && left.size() > 0; k++) {
                int rest = left.size() - 1;
                int smaller = 0;
                // Each smaller one that is left comes behind this one, and counts it.
                while (smaller < rest && rank >= rowsOf(rest, disquiet - smaller)) {
                    rank -= rowsOf(rest, disquiet - smaller);
                    smaller++;
                }
                disquiet -= smaller;
                who = left.removeAt(placeInLeft(rest - smaller));
            }
            return who;
        }

        int changesTo(int shelf, Line queue) {
            if (shelves.sizeOf(shelf) != queue.size()) {
                return STATE;
            }
            result.clear();
            for (int place = 0; place < queue.size(); place++) {
                int person = (int) shelves.valueAt(shelf, place);
                if (queue.placeOf(person) < 0 || result.placeOf(person) >= 0) {
                    return STATE;
                }
                result.insert(person, place);
            }
            int changes = 0;
            for (int j = 1; j < result.size(); j++) {
                for (int i = 0; i < j; i++) {
                    if (queue.placeOf(result.at(i)) > queue.placeOf(result.at(j))) {
                        changes++;
                    }
                }
            }
            return changes;
        }

        /** The place, among those who are left, of the one who has just so many taller there. */
        private int placeInLeft(int taller) {
            for (int place = 0; place < left.size(); place++) {
                int found = 0;
                for (int k = 0; k < left.size(); k++) {
                    if (crowd.isTaller(left.at(k), left.at(place))) {
                        found++;
                    }
                }
                if (found == taller) {
                    return place;
                }
            }
            return NOT;
        }

        private void countRows() {
            rowCounts[0][0] = 1;
            for (int people = 1; people <= MOST_PEOPLE; people++) {
                spread(rowCounts[people - 1], rowCounts[people], people - 1);
            }
        }

        /** Ways to have each sum when one more number, 0 to most, comes to sums in so many ways. */
        private static void spread(int[] from, int[] to, int most) {
            int window = 0;
            for (int sum = 0; sum < to.length && sum < from.length; sum++) {
                window += from[sum];
                if (sum > most) {
                    window -= from[sum - most - 1];
                }
                to[sum] = window;
            }
        }
    }

    /** What is only thought: THE QUEUE stays as it is. */
    private static final class Thoughts {
        private static final int MOST_GROWTH = 60;

        private final Crowd crowd;
        private final Judge judge;
        private final Line trial;
        private final int[] numbers;
        /** By PLACES: those, as bits of PLACES, who must be served ahead of the one there. */
        private final int[] ahead;
        /** In how many orders those of a set of PLACES may be served. */
        private final int[] orders;

        Thoughts(Crowd crowd, Judge judge) {
            this.crowd = crowd;
            this.judge = judge;
            trial = new Line();
            numbers = new int[MOST_PEOPLE];
            ahead = new int[MOST_PEOPLE];
            orders = new int[1 << MOST_PEOPLE];
        }

        int calmest(Line queue, boolean wantsPlaces) {
            trial.copyFrom(queue);
            int least = judge.disquietOf(queue);
            int places = NOT;
            for (int i = 0; i < trial.size(); i++) {
                for (int j = i + 1; j < trial.size(); j++) {
                    trial.exchange(i, j);
                    int disquiet = judge.disquietOf(trial);
                    trial.exchange(i, j);
                    if (disquiet < least) {
                        least = disquiet;
                        places = 10 * i + j;
                    }
                }
            }
            return places == NOT || wantsPlaces ? places : least;
        }

        int bestEntry(Line queue, int person, boolean wantsPlace) {
            int least = 0;
            int best = NOT;
            for (int place = 0; place <= queue.size(); place++) {
                trial.copyFrom(queue);
                trial.insert(person, place);
                int disquiet = judge.disquietOf(trial);
                if (best == NOT || disquiet < least) {
                    least = disquiet;
                    best = place;
                }
            }
            return wantsPlace ? best : least;
        }

        int leastGrowth(Line queue, int place) {
            int height = crowd.heightOf(queue.at(place));
            for (int growth = 0; growth <= MOST_GROWTH; growth++) {
                if (judge.isCalmIfTall(queue, place, height + growth)) {
                    return growth;
                }
            }
            return NOT;
        }

        /** To be called ahead of what tells of SERVED by RIGHT. */
        void weighRights(Line queue) {
            int size = Math.min(queue.size(), MOST_PEOPLE);
            for (int place = 0; place < size; place++) {
                numbers[place] = judge.numberAt(queue, place);
            }
            for (int place = 0; place < size; place++) {
                ahead[place] = 0;
                for (int other = 0; other < size; other++) {
                    if (numbers[other] < numbers[place] && crowd.isTaller(queue.at(other), queue.at(place))) {
                        ahead[place] |= 1 << other;
                    }
                }
            }
        }

        int whoMayBeFirst(Line queue) {
            int all = allPlaces(queue);
            int people = 0;
            for (int place = 0; place < queue.size(); place++) {
                if (mayBeNext(place, all)) {
                    people |= 1 << queue.at(place);
                }
            }
            return people;
        }

        int ordersByRight(Line queue) {
            int size = Math.min(queue.size(), MOST_PEOPLE);
            orders[0] = 1;
            for (int set = 1; set < 1 << size; set++) {
                int sum = 0;
                for (int place = 0; place < size; place++) {
                    int one = 1 << place;
                    if ((set & one) != 0 && (ahead[place] & set) == 0) {
                        sum += orders[set ^ one];
                    }
                }
                orders[set] = sum;
            }
            return orders[(1 << size) - 1];
        }

        int servedAs(Line queue, int k) {
            int set = allPlaces(queue);
            int place = NOT;
            for (int turn = 0; turn <= k; turn++) {
                place = nextByRight(queue, set);
                if (place < 0) {
                    return NOT;
                }
                set &= ~(1 << place);
            }
            return queue.at(place);
        }

        /** The sum of DISQUIETS (person -2), how often it is less than now (-1), how often one is first. */
        int mixings(Line queue, int seed, int n, int person) {
            int now = judge.disquietOf(queue);
            int z = seed;
            int answer = 0;
            for (int time = 0; time < n; time++) {
                trial.copyFrom(queue);
                for (int i = trial.size() - 1; i >= 1; i--) {
                    z = z * 1103515245 + 12345;
                    trial.exchange(i, (z >>> 8) % (i + 1));
                }
                if (person == -2) {
                    answer += judge.disquietOf(trial);
                } else if (person == -1 ? judge.disquietOf(trial) < now : trial.at(0) == person) {
                    answer++;
                }
            }
            return answer;
        }

        private int allPlaces(Line queue) {
            return (1 << Math.min(queue.size(), MOST_PEOPLE)) - 1;
        }

        private boolean mayBeNext(int place, int set) {
            return place >= 0 && place < MOST_PEOPLE && (set >> place & 1) == 1 && (ahead[place] & set) == 0;
        }

        private int nextByRight(Line queue, int set) {
            int next = NOT;
            for (int place = 0; place < queue.size(); place++) {
                if (mayBeNext(place, set) && (next < 0 || queue.at(place) < queue.at(next))) {
                    next = place;
                }
            }
            return next;
        }
    }

    /** BODIES of KINDS, their ACTS and THE TRACE. */
    private static final class Heads {
        private static final int MOST_HEADS = 50, KINDS = 8, ACTS = 4, MOST_TRACED = 24;
        private static final int SAYS = 0, STANDS = 1, MOVES = 2, TELLS = 3;
        /** Far above the deepest act, which goes six bodies deep. */
        private static final int DEEPEST = 30;

        /** The KIND above each KIND. */
        private static final int[] ABOVE = {-1, 0, 0, 2, 1, 3, 0, 4};
        /** By KIND, the bodies of its four ACTS; 0: it has none of its own. HEAD has those of SAYS and TELLS. */
        private static final int[] BODIES = {
            1, 10, 11, 2,
            20, 0, 0, 0,
            0, 30, 0, 0,
            0, 41, 40, 0,
            0, 0, 50, 0,
            0, 0, 0, 60,
            70, 0, 0, 0,
            0, 80, 0, 81,
        };

        private final int[] kinds;
        private int size;
        private final int[] trace;
        private int ran;
        private int number;
        private int ownKind;

        Heads() {
            kinds = new int[MOST_HEADS];
            trace = new int[MOST_TRACED];
        }

        static boolean isKind(int kind) {
            return kind >= 0 && kind < KINDS;
        }

        static boolean isUnder(int kind, int other) {
            int k = kind;
            for (int step = 0; step < KINDS && isKind(k); step++) {
                if (k == other) {
                    return true;
                }
                k = ABOVE[k];
            }
            return false;
        }

        int size() {
            return size;
        }

        int ran() {
            return ran;
        }

        boolean isHead(int head) {
            return head >= 0 && head < size;
        }

        int kindOf(int head) {
            return isHead(head) ? kinds[head] : NOT;
        }

        int add(int kind) {
            if (!isKind(kind)) {
                return BAD;
            }
            if (size >= MOST_HEADS) {
                return FULL;
            }
            kinds[size] = kind;
            size++;
            return size - 1;
        }

        int traced(int i) {
            return i >= 0 && i < ran && i < MOST_TRACED ? trace[i] : BAD;
        }

        int perform(int head, int act, int x) {
            ran = 0;
            if (!isHead(head) || act < 0 || act >= ACTS) {
                return 0;
            }
            number = head;
            ownKind = kinds[head];
            return own(act, x, 0);
        }

        private int own(int act, int x, int depth) {
            return from(ownKind, act, x, depth + 1);
        }

        private int above(int kind, int act, int x, int depth) {
            return isKind(kind) ? from(ABOVE[kind], act, x, depth + 1) : 0;
        }

        /** Runs the body of this KIND, or of the next KIND above that has one. */
        private int from(int kind, int act, int x, int depth) {
            int k = kind;
            for (int step = 0; step < KINDS && isKind(k); step++) {
                int body = BODIES[k * ACTS + act];
                if (body != 0) {
                    return depth > DEEPEST ? 0 : run(body, k, x, depth);
                }
                k = ABOVE[k];
            }
            return 0;
        }

        private int run(int body, int kind, int x, int depth) {
            note(body);
            switch (body) {
                case 1:
                    return x + number;
                case 2:
                    return own(STANDS, x, depth) - own(MOVES, 1, depth);
                case 10:
                    return own(SAYS, x, depth) * 2;
                case 11:
                    return x ^ number;
                case 20:
                    return above(kind, SAYS, x, depth) + 3;
                case 30:
                    return -above(kind, STANDS, x, depth);
                case 40:
                    return above(kind, MOVES, x, depth) * 3;
                case 41:
                    return above(kind, STANDS, x + 1, depth);
                case 50:
                    return above(kind, MOVES, x, depth) - own(SAYS, 2, depth);
                case 60:
                    return above(kind, TELLS, x, depth) ^ 5;
                case 70:
                    return above(kind, SAYS, x, depth) * 2;
                case 80:
                    return above(kind, STANDS, x, depth) + own(MOVES, 2, depth);
                case 81:
                    return above(kind, TELLS, x, depth) - 1;
                default:
                    return 0;
            }
        }

        private void note(int body) {
            if (ran < MOST_TRACED) {
                trace[ran] = body;
            }
            ran++;
        }
    }
}
