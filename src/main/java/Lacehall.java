import java.util.ArrayList;
import java.util.Arrays;
import java.util.NoSuchElementException;

/** A hall of lace by bobbins. What each call does and answers stands in DOC.md, by promises. */
public final class Lacehall {
    private static final int NONE = -1;
    private static final int MAX_STITCHES = 12;
    private static final int MAX_LETTERS = 8;
    private static final int PLACES = 4;
    private static final int COLUMNS = 10;
    private static final int MAX_THREADS = 20;
    private static final int COLOURS = 10;
    private static final int FIRST_WOUND = 100;
    private static final int MAX_WIND = 999;
    private static final int MAX_PINS = 12;
    private static final int PIN_COLUMNS = COLUMNS - 1;
    private static final int ROWS = 100;
    private static final int PIN_LENGTH = 2;
    private static final int SEWING_LENGTH = 3;
    private static final int MIN_GROUND_PAIRS = 2;
    private static final int MAX_GROUND_PAIRS = 4;
    private static final int MAX_WORKERS = 4;
    /** One call makes at most one event, and an object is used for at most 512 calls. */
    private static final int MAX_EVENTS = 512;

    private final ArrayList<Stitch> stitches = new ArrayList<Stitch>();
    private final ArrayList<Bobbin> bobbins = new ArrayList<Bobbin>();
    private final ArrayList<Event> events = new ArrayList<Event>();
    private final Pattern pattern = new Pattern();
    private final Lace lace = new Lace();
    private final Rework rework = new Rework();
    private final Ground ground = new Ground();
    private Stitch buffer = new Stitch();
    private int sewings;

    public Lacehall() {
    }

    public int letter(char letter) throws IllegalArgumentException, IllegalStateException {
        if (letter != 'c' && letter != 'l' && letter != 'r' && letter != 't') {
            throw new IllegalArgumentException("there is no such letter");
        }
        if (buffer.letterCount >= MAX_LETTERS) {
            throw new IllegalStateException("the buffer is full");
        }
        buffer.addLetter(letter);
        return buffer.letterCount;
    }

    public int stitch() throws UnsupportedOperationException, IllegalStateException {
        if (buffer.letterCount == 0) {
            throw new UnsupportedOperationException("the buffer is empty");
        }
        if (stitches.size() >= MAX_STITCHES) {
            throw new IllegalStateException("there are no more stitches");
        }
        stitches.add(buffer);
        buffer = new Stitch();
        return stitches.size() - 1;
    }

    public int crossings(int stitch) throws IndexOutOfBoundsException {
        if (!hasStitch(stitch)) {
            throw new IndexOutOfBoundsException("there is no such stitch");
        }
        return stitches.get(stitch).crossingCount;
    }

    public int goesTo(int stitch, int place) throws IndexOutOfBoundsException, IllegalArgumentException {
        if (!hasStitch(stitch)) {
            throw new IndexOutOfBoundsException("there is no such stitch");
        }
        if (place < 0 || place >= PLACES) {
            throw new IllegalArgumentException("there is no such place");
        }
        return stitches.get(stitch).placeBehind(place);
    }

    public boolean areAlike(int stitch, int other) throws IndexOutOfBoundsException {
        if (!hasStitch(stitch) || !hasStitch(other)) {
            throw new IndexOutOfBoundsException("there is no such stitch");
        }
        return stitches.get(stitch).isBraidOf(stitches.get(other));
    }

    public int hang(int column) throws IndexOutOfBoundsException, UnsupportedOperationException,
            IllegalStateException {
        if (!isColumn(column)) {
            throw new IndexOutOfBoundsException("there is no such column");
        }
        if (lace.hasPair(column)) {
            throw new UnsupportedOperationException("the column has a pair");
        }
        if (bobbins.size() + 2 > MAX_THREADS) {
            throw new IllegalStateException("there are no more threads");
        }
        int left = bobbins.size();
        bobbins.add(new Bobbin(column));
        bobbins.add(new Bobbin(column));
        lace.hangPair(column, left);
        note(Kind.HUNG, column, left);
        return left;
    }

    public int end(int column) throws IndexOutOfBoundsException, UnsupportedOperationException {
        if (!isColumn(column)) {
            throw new IndexOutOfBoundsException("there is no such column");
        }
        if (!lace.hasPair(column)) {
            throw new UnsupportedOperationException("the column has no pair");
        }
        endBobbin(lace.threadAt(2 * column), column);
        endBobbin(lace.threadAt(2 * column + 1), column);
        lace.endPair(column);
        note(Kind.ENDED, column, NONE);
        return lace.countPairs();
    }

    public int threadIn(int column, boolean isRight) throws IndexOutOfBoundsException {
        if (!isColumn(column)) {
            throw new IndexOutOfBoundsException("there is no such column");
        }
        return lace.threadAt(isRight ? 2 * column + 1 : 2 * column);
    }

    public int setColour(int thread, int colour) throws IndexOutOfBoundsException, IllegalArgumentException {
        if (!hasThread(thread)) {
            throw new IndexOutOfBoundsException("there is no such thread");
        }
        if (colour < 0 || colour >= COLOURS) {
            throw new IllegalArgumentException("there is no such colour");
        }
        Bobbin bobbin = bobbins.get(thread);
        int before = bobbin.colour;
        bobbin.colour = colour;
        return before;
    }

    public int wind(int thread, int length) throws IndexOutOfBoundsException, IllegalArgumentException {
        if (!hasThread(thread)) {
            throw new IndexOutOfBoundsException("there is no such thread");
        }
        if (length < 1 || length > MAX_WIND) {
            throw new IllegalArgumentException("the length is out of range");
        }
        Bobbin bobbin = bobbins.get(thread);
        bobbin.wound += length;
        return bobbin.wound;
    }

    public int used(int thread) throws IndexOutOfBoundsException {
        if (!hasThread(thread)) {
            throw new IndexOutOfBoundsException("there is no such thread");
        }
        return lace.lengthOf(thread);
    }

    public int worn(int thread) throws IndexOutOfBoundsException {
        if (!hasThread(thread)) {
            throw new IndexOutOfBoundsException("there is no such thread");
        }
        return bobbins.get(thread).wear;
    }

    public int endOf(int thread, boolean isEnd) throws IndexOutOfBoundsException, NoSuchElementException {
        if (!hasThread(thread)) {
            throw new IndexOutOfBoundsException("there is no such thread");
        }
        Bobbin bobbin = bobbins.get(thread);
        if (isEnd && bobbin.lastColumn == NONE) {
            throw new NoSuchElementException("the thread has not ended");
        }
        return isEnd ? bobbin.lastColumn : bobbin.firstColumn;
    }

    public int over(int thread, int other) throws IndexOutOfBoundsException, IllegalArgumentException {
        if (!hasThread(thread) || !hasThread(other)) {
            throw new IndexOutOfBoundsException("there is no such thread");
        }
        if (thread == other) {
            throw new IllegalArgumentException("both threads are the same");
        }
        return lace.timesAbove(thread, other);
    }

    public int pin(int column, int row, int stitch) throws IndexOutOfBoundsException,
            IllegalArgumentException, UnsupportedOperationException, IllegalStateException {
        if (column < 0 || column >= PIN_COLUMNS || !hasStitch(stitch)) {
            throw new IndexOutOfBoundsException("there is no such column or stitch");
        }
        if (row < 0 || row >= ROWS) {
            throw new IllegalArgumentException("there is no such row");
        }
        if (!pattern.hasRoomAt(column, row)) {
            throw new UnsupportedOperationException("a pin that touches it is in the way");
        }
        if (pattern.size() >= MAX_PINS) {
            throw new IllegalStateException("there are no more pins");
        }
        pattern.addPin(new Pin(column, row, stitches.get(stitch)));
        return pattern.size() - 1;
    }

    public boolean canWork(int pin) throws IndexOutOfBoundsException {
        if (!pattern.hasPin(pin)) {
            throw new IndexOutOfBoundsException("there is no such pin");
        }
        return isWorkable(pin);
    }

    public int work(int pin) throws IndexOutOfBoundsException, UnsupportedOperationException {
        if (!pattern.hasPin(pin)) {
            throw new IndexOutOfBoundsException("there is no such pin");
        }
        if (!isWorkable(pin)) {
            throw new UnsupportedOperationException("the pin cannot be worked");
        }
        Pin worked = pattern.pins.get(pin);
        lace.runStitch(worked.column, worked.stitch);
        worked.keepOuts(lace);
        pattern.workedPins |= 1 << pin;
        note(Kind.WORKED, worked.column, pin);
        return Integer.bitCount(pattern.workedPins);
    }

    public boolean isWorked(int pin) throws IndexOutOfBoundsException {
        if (!pattern.hasPin(pin)) {
            throw new IndexOutOfBoundsException("there is no such pin");
        }
        return isIn(pattern.workedPins, pin);
    }

    public int undo(int pin) throws IndexOutOfBoundsException, UnsupportedOperationException {
        if (!pattern.hasPin(pin)) {
            throw new IndexOutOfBoundsException("there is no such pin");
        }
        if (!isIn(pattern.workedPins, pin)) {
            throw new UnsupportedOperationException("the pin is not worked");
        }
        int undone = pattern.workedBehind(pin);
        if (!isFree(pin, undone)) {
            throw new UnsupportedOperationException("the pin cannot be undone");
        }
        takeBackPins(undone);
        return Integer.bitCount(undone);
    }

    public int sew(int column, int pin) throws IndexOutOfBoundsException, UnsupportedOperationException {
        if (!isColumn(column) || !pattern.hasPin(pin)) {
            throw new IndexOutOfBoundsException("there is no such column or pin");
        }
        if (!isSewable(column, pin)) {
            throw new UnsupportedOperationException("the pair cannot be sewn to the pin");
        }
        lace.sewPair(column);
        note(Kind.SEWN, column, pin);
        sewings++;
        return sewings;
    }

    public long orders() {
        return pattern.orderCount;
    }

    public int orderAt(int index) throws IndexOutOfBoundsException {
        if (index < 0 || index >= pattern.size()) {
            throw new IndexOutOfBoundsException("there is no such index");
        }
        return pattern.firstOrderAt(index);
    }

    public int colourAt(int pin, int place) throws IndexOutOfBoundsException, IllegalArgumentException,
            UnsupportedOperationException {
        if (!pattern.hasPin(pin)) {
            throw new IndexOutOfBoundsException("there is no such pin");
        }
        if (place < 0 || place >= PLACES) {
            throw new IllegalArgumentException("there is no such place");
        }
        if (!isIn(pattern.workedPins, pin)) {
            throw new UnsupportedOperationException("the pin is not worked");
        }
        int thread = pattern.pins.get(pin).outAt(place);
        return hasThread(thread) ? bobbins.get(thread).colour : 0;
    }

    public int closesBehind(int pairs, int stitch, int other) throws IllegalArgumentException,
            IndexOutOfBoundsException {
        if (pairs < MIN_GROUND_PAIRS || pairs > MAX_GROUND_PAIRS) {
            throw new IllegalArgumentException("the number of pairs is out of range");
        }
        if (!hasStitch(stitch) || !hasStitch(other)) {
            throw new IndexOutOfBoundsException("there is no such stitch");
        }
        return ground.countRows(pairs, stitches.get(stitch), stitches.get(other));
    }

    public int minutes(int workers) throws IllegalArgumentException {
        if (workers < 1 || workers > MAX_WORKERS) {
            throw new IllegalArgumentException("the number of workers is out of range");
        }
        return pattern.lastMinute(workers);
    }

    public long allCrossings() {
        long sum = 0;
        for (int pin = 0; pin < pattern.size(); pin++) {
            if (isIn(pattern.workedPins, pin)) {
                sum += pattern.pins.get(pin).stitch.crossingCount;
            }
        }
        return sum;
    }

    public float workedShare() throws ArithmeticException {
        int all = pattern.size();
        if (all == 0) {
            throw new ArithmeticException("there are no pins");
        }
        return (float) Integer.bitCount(pattern.workedPins) / (float) all;
    }

    public double meanUsed() throws ArithmeticException {
        int all = bobbins.size();
        if (all == 0) {
            throw new ArithmeticException("there are no threads");
        }
        long sum = 0;
        for (int thread = 0; thread < all; thread++) {
            sum += lace.lengthOf(thread);
        }
        return (double) sum / (double) all;
    }

    public boolean isSound() {
        for (int thread = 0; thread < bobbins.size(); thread++) {
            if (lace.lengthOf(thread) > bobbins.get(thread).wound) {
                return false;
            }
        }
        return rework.workAgain(events, pattern) && rework.lace.isSameAs(lace);
    }

    private static boolean isColumn(int column) {
        return column >= 0 && column < COLUMNS;
    }

    private static boolean isIn(int pins, int pin) {
        return (pins >> pin & 1) != 0;
    }

    private boolean hasStitch(int stitch) {
        return stitch >= 0 && stitch < stitches.size();
    }

    private boolean hasThread(int thread) {
        return thread >= 0 && thread < bobbins.size();
    }

    private void note(Kind kind, int column, int number) {
        if (events.size() < MAX_EVENTS) {
            events.add(new Event(kind, column, number));
        }
    }

    private void endBobbin(int thread, int column) {
        if (hasThread(thread)) {
            bobbins.get(thread).lastColumn = column;
        }
    }

    private boolean hasLeft(int thread, int length) {
        return hasThread(thread) && bobbins.get(thread).wound - lace.lengthOf(thread) >= length;
    }

    private boolean isWorkable(int pin) {
        if (isIn(pattern.workedPins, pin) || !pattern.isAllAheadIn(pin, pattern.workedPins)) {
            return false;
        }
        Pin next = pattern.pins.get(pin);
        if (!lace.hasPair(next.column) || !lace.hasPair(next.column + 1)) {
            return false;
        }
        for (int place = 0; place < PLACES; place++) {
            if (!hasLeft(lace.threadAt(2 * next.column + place), next.stitch.lengthFor(place))) {
                return false;
            }
        }
        return true;
    }

    private boolean isSewable(int column, int pin) {
        int pinColumn = pattern.pins.get(pin).column;
        return lace.hasPair(column)
                && isIn(pattern.workedPins, pin)
                && column >= pinColumn - 1 && column <= pinColumn + 2
                && hasLeft(lace.threadAt(2 * column), SEWING_LENGTH)
                && hasLeft(lace.threadAt(2 * column + 1), SEWING_LENGTH);
    }

    /** Whether nothing but work was done at the pins of a set since one of them was worked. */
    private boolean isFree(int pin, int undone) {
        int since = eventOf(pin);
        if (since == NONE) {
            return false;
        }
        for (int i = since + 1; i < events.size(); i++) {
            Event event = events.get(i);
            boolean isAtPin = event.kind == Kind.SEWN && isIn(undone, event.number);
            if (event.kind != Kind.WORKED && (isAtPin || pattern.isUnder(event.column, undone))) {
                return false;
            }
        }
        return true;
    }

    private int eventOf(int pin) {
        for (int i = 0; i < events.size(); i++) {
            if (events.get(i).kind == Kind.WORKED && events.get(i).number == pin) {
                return i;
            }
        }
        return NONE;
    }

    /** Goes from the last event to the first, as each pin gives back the threads in its own columns. */
    private void takeBackPins(int undone) {
        for (int i = events.size() - 1; i >= 0; i--) {
            Event event = events.get(i);
            if (event.kind == Kind.WORKED && isIn(undone, event.number) && pattern.hasPin(event.number)) {
                Pin pin = pattern.pins.get(event.number);
                wearThreads(pin);
                lace.takeBack(pin.column, pin.stitch);
                events.remove(i);
            }
        }
        pattern.workedPins &= ~undone;
    }

    private void wearThreads(Pin pin) {
        for (int place = 0; place < PLACES; place++) {
            int thread = pin.outAt(place);
            if (hasThread(thread)) {
                bobbins.get(thread).wear += pin.stitch.crossingsOf(pin.stitch.placeAhead(place));
            }
        }
    }

    /** What is done on the pillow and is kept in its order. */
    private enum Kind { HUNG, ENDED, SEWN, WORKED }

    /** A pair hung, ended or sewn, or a pin worked; the number is a thread's or a pin's. */
    private static final class Event {
        private final Kind kind;
        private final int column;
        private final int number;

        Event(Kind kind, int column, int number) {
            this.kind = kind;
            this.column = column;
            this.number = number;
        }
    }

    /** What a thread keeps, wherever it is. */
    private static final class Bobbin {
        private final int firstColumn;
        private int lastColumn = NONE;
        private int colour;
        private int wound = FIRST_WOUND;
        private int wear;

        Bobbin(int column) {
            firstColumn = column;
        }
    }

    /** A word of crossings. Its threads are named by the places in which they are ahead of it. */
    private static final class Stitch {
        private final int[] threads = new int[PLACES];
        private final int[] aboves = new int[PLACES * PLACES];
        private final int[] crossed = new int[PLACES];
        private final int[] curves = new int[2 * PLACES];
        private int letterCount;
        private int crossingCount;

        Stitch() {
            for (int place = 0; place < PLACES; place++) {
                threads[place] = place;
                curves[2 * place + 1] = 1;
            }
        }

        void addLetter(char letter) {
            letterCount++;
            if (letter == 'c') {
                cross(1, true);
            }
            if (letter == 'l' || letter == 't') {
                cross(0, false);
            }
            if (letter == 'r' || letter == 't') {
                cross(2, false);
            }
        }

        private void cross(int left, boolean isLeftAbove) {
            if (left < 0 || left >= PLACES - 1) {
                return;
            }
            int leftThread = threads[left];
            int rightThread = threads[left + 1];
            threads[left] = rightThread;
            threads[left + 1] = leftThread;
            if (isLeftAbove) {
                countAbove(leftThread, rightThread);
            } else {
                countAbove(rightThread, leftThread);
            }
            bendCurves(left, isLeftAbove);
            crossingCount++;
        }

        private void countAbove(int upper, int lower) {
            int at = PLACES * upper + lower;
            if (at >= 0 && at < aboves.length) {
                aboves[at]++;
                countCrossed(upper);
                countCrossed(lower);
            }
        }

        private void countCrossed(int thread) {
            if (thread >= 0 && thread < crossed.length) {
                crossed[thread]++;
            }
        }

        /**
         * The curves are Dynnikov's coordinates of what the braid makes of a fixed set of curves round
         * the threads: only the braid without crossings leaves that set as it is, so two words have the
         * same numbers just if they are the same braid. They stay small: a word has 16 crossings at most.
         */
        private void bendCurves(int left, boolean isLeftAbove) {
            int at = 2 * left;
            if (at < 0 || at + 3 >= curves.length) {
                return;
            }
            int sign = isLeftAbove ? 1 : -1;
            int a = sign * curves[at];
            int b = curves[at + 1];
            int c = sign * curves[at + 2];
            int d = curves[at + 3];
            int bend = a - Math.min(b, 0) - c + Math.max(d, 0);
            curves[at] = sign * (a + Math.max(b, 0) + Math.max(Math.max(d, 0) - bend, 0));
            curves[at + 1] = d - Math.max(bend, 0);
            curves[at + 2] = sign * (c + Math.min(d, 0) + Math.min(Math.min(b, 0) + bend, 0));
            curves[at + 3] = b + Math.max(bend, 0);
        }

        boolean isBraidOf(Stitch other) {
            for (int i = 0; i < curves.length && i < other.curves.length; i++) {
                if (curves[i] != other.curves[i]) {
                    return false;
                }
            }
            return true;
        }

        int placeAhead(int placeBehind) {
            return placeBehind >= 0 && placeBehind < threads.length ? threads[placeBehind] : NONE;
        }

        int placeBehind(int placeAhead) {
            for (int place = 0; place < threads.length; place++) {
                if (threads[place] == placeAhead) {
                    return place;
                }
            }
            return NONE;
        }

        int timesAbove(int upper, int lower) {
            int at = PLACES * upper + lower;
            return at >= 0 && at < aboves.length ? aboves[at] : 0;
        }

        int crossingsOf(int thread) {
            return thread >= 0 && thread < crossed.length ? crossed[thread] : 0;
        }

        int lengthFor(int thread) {
            return PIN_LENGTH + crossingsOf(thread);
        }
    }

    /** The threads in the columns, what is used of them, and how often each is above another one. */
    private static final class Lace {
        private final int[] slots = new int[2 * COLUMNS];
        private final int[] lengths = new int[MAX_THREADS];
        private final int[] aboves = new int[MAX_THREADS * MAX_THREADS];
        private final int[] held = new int[PLACES];

        Lace() {
            Arrays.fill(slots, NONE);
        }

        void clear() {
            Arrays.fill(slots, NONE);
            Arrays.fill(lengths, 0);
            Arrays.fill(aboves, 0);
        }

        boolean isSameAs(Lace other) {
            return areSame(slots, other.slots) && areSame(lengths, other.lengths)
                    && areSame(aboves, other.aboves);
        }

        private static boolean areSame(int[] row, int[] other) {
            if (row.length != other.length) {
                return false;
            }
            for (int i = 0; i < row.length; i++) {
                if (row[i] != other[i]) {
                    return false;
                }
            }
            return true;
        }

        int threadAt(int slot) {
            return slot >= 0 && slot < slots.length ? slots[slot] : NONE;
        }

        private void put(int slot, int thread) {
            if (slot >= 0 && slot < slots.length) {
                slots[slot] = thread;
            }
        }

        boolean hasPair(int column) {
            return threadAt(2 * column) != NONE;
        }

        int countPairs() {
            int pairs = 0;
            for (int column = 0; column < COLUMNS; column++) {
                if (hasPair(column)) {
                    pairs++;
                }
            }
            return pairs;
        }

        void hangPair(int column, int left) {
            put(2 * column, left);
            put(2 * column + 1, left + 1);
        }

        void endPair(int column) {
            put(2 * column, NONE);
            put(2 * column + 1, NONE);
        }

        void sewPair(int column) {
            use(threadAt(2 * column), SEWING_LENGTH);
            use(threadAt(2 * column + 1), SEWING_LENGTH);
        }

        private static boolean isThread(int thread) {
            return thread >= 0 && thread < MAX_THREADS;
        }

        int lengthOf(int thread) {
            return isThread(thread) ? lengths[thread] : 0;
        }

        private void use(int thread, int length) {
            if (isThread(thread)) {
                lengths[thread] += length;
            }
        }

        int timesAbove(int upper, int lower) {
            return isThread(upper) && isThread(lower) ? aboves[MAX_THREADS * upper + lower] : 0;
        }

        private void countAbove(int upper, int lower, int times) {
            if (isThread(upper) && isThread(lower)) {
                aboves[MAX_THREADS * upper + lower] += times;
            }
        }

        void runStitch(int column, Stitch stitch) {
            for (int place = 0; place < held.length; place++) {
                held[place] = threadAt(2 * column + place);
            }
            countHeld(stitch, 1);
            for (int place = 0; place < held.length; place++) {
                put(2 * column + stitch.placeBehind(place), held[place]);
            }
        }

        void takeBack(int column, Stitch stitch) {
            for (int place = 0; place < held.length; place++) {
                held[place] = threadAt(2 * column + stitch.placeBehind(place));
            }
            countHeld(stitch, -1);
            for (int place = 0; place < held.length; place++) {
                put(2 * column + place, held[place]);
            }
        }

        private void countHeld(Stitch stitch, int times) {
            for (int place = 0; place < held.length; place++) {
                use(held[place], times * stitch.lengthFor(place));
                for (int other = 0; other < held.length; other++) {
                    countAbove(held[place], held[other], times * stitch.timesAbove(place, other));
                }
            }
        }
    }

    /** A pin of the pattern; the pins that are ahead of it are the bits of a number. */
    private static final class Pin {
        private final int column;
        private final int row;
        private final Stitch stitch;
        private final int[] outs = new int[PLACES];
        private int pinsAhead;

        Pin(int column, int row, Stitch stitch) {
            this.column = column;
            this.row = row;
            this.stitch = stitch;
        }

        boolean isTouchedFrom(int otherColumn) {
            return otherColumn >= column - 1 && otherColumn <= column + 1;
        }

        void keepOuts(Lace lace) {
            for (int place = 0; place < outs.length; place++) {
                outs[place] = lace.threadAt(2 * column + place);
            }
        }

        int outAt(int place) {
            return place >= 0 && place < outs.length ? outs[place] : NONE;
        }
    }

    /** All pins and what is ahead of what; sets of pins are the bits of a number. */
    private static final class Pattern {
        private final ArrayList<Pin> pins = new ArrayList<Pin>();
        private final long[] ways = new long[1 << MAX_PINS];
        private final int[] endMinutes = new int[MAX_PINS];
        private final int[] freeMinutes = new int[MAX_WORKERS];
        private int workedPins;
        private long orderCount = 1;

        int size() {
            return pins.size();
        }

        boolean hasPin(int pin) {
            return pin >= 0 && pin < pins.size();
        }

        boolean hasRoomAt(int column, int row) {
            for (int i = 0; i < pins.size(); i++) {
                Pin pin = pins.get(i);
                boolean isInWay = pin.row == row || pin.row > row && isIn(workedPins, i);
                if (isInWay && pin.isTouchedFrom(column)) {
                    return false;
                }
            }
            return true;
        }

        void addPin(Pin added) {
            int number = pins.size();
            for (int i = 0; i < number; i++) {
                Pin pin = pins.get(i);
                if (pin.isTouchedFrom(added.column)) {
                    if (pin.row < added.row) {
                        added.pinsAhead |= 1 << i;
                    } else {
                        pin.pinsAhead |= 1 << number;
                    }
                }
            }
            pins.add(added);
            // What is worked does not count here, so only a new pin changes the number of orders.
            orderCount = countOrders();
        }

        /** ways[done] is the number of orders in which the pins of the set done can come first. */
        private long countOrders() {
            int sets = Math.min(1 << pins.size(), ways.length);
            Arrays.fill(ways, 0);
            ways[0] = 1;
            for (int done = 0; done < sets; done++) {
                for (int pin = 0; pin < pins.size() && ways[done] != 0; pin++) {
                    int next = done | 1 << pin;
                    if (next != done && next < ways.length && isAllAheadIn(pin, done)) {
                        ways[next] += ways[done];
                    }
                }
            }
            return sets > 0 ? ways[sets - 1] : 0;
        }

        boolean isAllAheadIn(int pin, int done) {
            return hasPin(pin) && (pins.get(pin).pinsAhead & ~done) == 0;
        }

        private int lowestReady(int taken, int done) {
            for (int pin = 0; pin < pins.size(); pin++) {
                if (!isIn(taken, pin) && isAllAheadIn(pin, done)) {
                    return pin;
                }
            }
            return NONE;
        }

        int firstOrderAt(int index) {
            int done = 0;
            int last = NONE;
            for (int i = 0; i <= index && i < pins.size(); i++) {
                last = lowestReady(done, done);
                if (last != NONE) {
                    done |= 1 << last;
                }
            }
            return last;
        }

        int workedBehind(int pin) {
            int found = 1 << pin;
            for (int pass = 0; pass < pins.size(); pass++) {
                for (int i = 0; i < pins.size(); i++) {
                    if (isIn(workedPins, i) && (pins.get(i).pinsAhead & found) != 0) {
                        found |= 1 << i;
                    }
                }
            }
            return found;
        }

        /** Whether a pin of the set is worked with the pair of the column. */
        boolean isUnder(int column, int set) {
            for (int i = 0; i < pins.size(); i++) {
                int first = pins.get(i).column;
                if (isIn(set, i) && (column == first || column == first + 1)) {
                    return true;
                }
            }
            return false;
        }

        int lastMinute(int workers) {
            Arrays.fill(freeMinutes, 0);
            int all = (1 << pins.size()) - 1;
            int taken = 0;
            for (int minute = 0; minute <= MAX_PINS * MAX_LETTERS && taken != all; minute++) {
                int ended = endedIn(taken, minute);
                for (int worker = 0; worker < workers && worker < freeMinutes.length; worker++) {
                    int pin = freeMinutes[worker] <= minute ? lowestReady(taken, ended) : NONE;
                    if (pin >= 0 && pin < pins.size() && pin < endMinutes.length) {
                        taken |= 1 << pin;
                        endMinutes[pin] = minute + pins.get(pin).stitch.letterCount;
                        freeMinutes[worker] = endMinutes[pin];
                    }
                }
            }
            int last = 0;
            for (int worker = 0; worker < freeMinutes.length; worker++) {
                last = Math.max(last, freeMinutes[worker]);
            }
            return last;
        }

        private int endedIn(int taken, int minute) {
            int ended = 0;
            for (int pin = 0; pin < endMinutes.length; pin++) {
                if (isIn(taken, pin) && endMinutes[pin] <= minute) {
                    ended |= 1 << pin;
                }
            }
            return ended;
        }
    }

    /** The threads of a ground by their places. */
    private static final class Ground {
        /** No way of changing the places of eight threads needs more than 15 turns to close up. */
        private static final int MAX_TURNS = 100;
        private final int[] threads = new int[2 * MAX_GROUND_PAIRS];
        private final int[] held = new int[PLACES];

        int countRows(int pairs, Stitch odd, Stitch even) {
            for (int place = 0; place < threads.length; place++) {
                threads[place] = place;
            }
            for (int turn = 1; turn <= MAX_TURNS; turn++) {
                runStitch(odd, 0);
                if (pairs >= 4) {
                    runStitch(odd, 4);
                }
                if (pairs >= 3) {
                    runStitch(even, 2);
                }
                if (isClosed()) {
                    return 2 * turn;
                }
            }
            return 0;
        }

        private void runStitch(Stitch stitch, int first) {
            if (first < 0 || first + held.length > threads.length) {
                return;
            }
            for (int place = 0; place < held.length; place++) {
                held[place] = threads[first + place];
            }
            for (int place = 0; place < held.length; place++) {
                int to = first + stitch.placeBehind(place);
                if (to >= 0 && to < threads.length) {
                    threads[to] = held[place];
                }
            }
        }

        private boolean isClosed() {
            for (int place = 0; place < threads.length; place++) {
                if (threads[place] != place) {
                    return false;
                }
            }
            return true;
        }
    }

    /**
     * Does all events once more, from an empty pillow. Each column is a line of the events in it, which
     * keep their order; one more line keeps the order of hanging, ending and sewing. Of the events that
     * are next in all their lines the latest comes first, so that the order is another one if it can be.
     */
    private static final class Rework {
        private static final int LINES = COLUMNS + 1;
        private final Lace lace = new Lace();
        private final int[] next = new int[LINES];
        private int workedPins;

        boolean workAgain(ArrayList<Event> events, Pattern pattern) {
            lace.clear();
            workedPins = 0;
            Arrays.fill(next, NONE);
            for (int line = 0; line < LINES; line++) {
                advance(line, events);
            }
            for (int step = 0; step < events.size(); step++) {
                int index = latestReady(events);
                if (index < 0 || index >= events.size()) {
                    return false;
                }
                doAgain(events.get(index), pattern);
                for (int line = 0; line < LINES; line++) {
                    if (next[line] == index) {
                        advance(line, events);
                    }
                }
            }
            return workedPins == pattern.workedPins;
        }

        private void advance(int line, ArrayList<Event> events) {
            if (line < 0 || line >= next.length) {
                return;
            }
            int index = next[line] + 1;
            while (index >= 0 && index < events.size() && !isOnLine(events.get(index), line)) {
                index++;
            }
            next[line] = index;
        }

        private static boolean isOnLine(Event event, int line) {
            if (event.kind == Kind.WORKED) {
                return line == event.column || line == event.column + 1;
            }
            return line == event.column || line == COLUMNS;
        }

        private int latestReady(ArrayList<Event> events) {
            int latest = NONE;
            for (int line = 0; line < LINES; line++) {
                int index = next[line];
                if (index > latest && index < events.size() && isReady(events.get(index), index)) {
                    latest = index;
                }
            }
            return latest;
        }

        private boolean isReady(Event event, int index) {
            for (int line = 0; line < LINES; line++) {
                if (next[line] != index && isOnLine(event, line)) {
                    return false;
                }
            }
            return event.kind != Kind.SEWN || isIn(workedPins, event.number);
        }

        private void doAgain(Event event, Pattern pattern) {
            if (event.kind == Kind.HUNG) {
                lace.hangPair(event.column, event.number);
            } else if (event.kind == Kind.ENDED) {
                lace.endPair(event.column);
            } else if (event.kind == Kind.SEWN) {
                lace.sewPair(event.column);
            } else if (pattern.hasPin(event.number)) {
                lace.runStitch(event.column, pattern.pins.get(event.number).stitch);
                workedPins |= 1 << event.number;
            }
        }
    }
}
