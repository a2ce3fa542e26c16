/** The edges of pairs and threads: promises 7 to 15 and 29. */
public final class LacehallPillowEdges {
    private static final int MIN = Integer.MIN_VALUE;
    private static final int MAX = Integer.MAX_VALUE;
    private static final int[] NO_COLUMNS = {MIN, -1, 10, MAX};

    public static void main(String[] arguments) {
        columnsToHangIn();
        columnThatHasAPair();
        twentyThreads();
        columnsToEnd();
        columnWithoutAPair();
        columnsToLookAt();
        threadNumbers();
        colours();
        lengthsToWind();
        lengthsAtFirst();
        whereThreadsBeginAndEnd();
        overTheSame();
        meanOfNone();
        Check.finish("LacehallPillowEdges");
    }

    private static void twoPairs(Lacehall hall) {
        Halls.hang(hall, 0, 9);
    }

    private static void tenPairs(Lacehall hall) {
        Halls.hangAll(hall);
    }

    private static void columnsToHangIn() {
        Edge.Steps nothing = hall -> { };
        for (int i = 0; i < 10; i++) {
            int column = i;
            Edge.allowed("7: column " + i, nothing, hall -> hall.hang(column), 0);
            Lacehall hall = Edge.made(again -> again.hang(column));
            Check.is("7: left in " + i, hall.threadIn(column, false), 0);
            Check.is("7: right in " + i, hall.threadIn(column, true), 1);
        }
        for (int column : NO_COLUMNS) {
            Edge.refused("7: column " + column, nothing, hall -> hall.hang(column), Edge.OUT);
            Edge.refused("7: column " + column, LacehallPillowEdges::tenPairs, hall -> hall.hang(column),
                    Edge.OUT);
        }
    }

    private static void columnThatHasAPair() {
        Edge.Steps two = LacehallPillowEdges::twoPairs;
        Edge.refused("7: it has a pair", two, hall -> hall.hang(0), Edge.UNSUPPORTED);
        Edge.refused("7: it has a pair", two, hall -> hall.hang(9), Edge.UNSUPPORTED);
        Edge.allowed("7: the column beside has one", two, hall -> hall.hang(1), 4);
        Edge.allowed("7: the column beside has one", two, hall -> hall.hang(8), 4);
        Edge.allowed("7: its pair has ended", hall -> {
            two.on(hall);
            hall.end(0);
        }, hall -> hall.hang(0), 4);
        Edge.allowed("7: the refused one took no thread", hall -> {
            two.on(hall);
            Check.outcome(() -> hall.hang(9));
        }, hall -> hall.hang(5), 4);
    }

    private static void twentyThreads() {
        Edge.Steps nine = hall -> Halls.hang(hall, 0, 1, 2, 3, 4, 5, 6, 7, 8);
        Edge.allowed("7: the threads 18 and 19", nine, hall -> hall.hang(9), 18);
        Edge.Steps tenEndedOne = hall -> {
            tenPairs(hall);
            hall.end(3);
        };
        Edge.refused("7: ended threads count", tenEndedOne, hall -> hall.hang(3), Edge.STATE);
        Edge.Steps oneColumn = hall -> {
            for (int i = 0; i < 9; i++) {
                hall.hang(6);
                hall.end(6);
            }
        };
        Edge.allowed("7: the threads 18 and 19", oneColumn, hall -> hall.hang(6), 18);
        Edge.refused("7: twenty that have ended", hall -> {
            oneColumn.on(hall);
            hall.hang(6);
            hall.end(6);
        }, hall -> hall.hang(2), Edge.STATE);
    }

    private static void columnsToEnd() {
        Edge.allowed("8: the first column", LacehallPillowEdges::tenPairs, hall -> hall.end(0), 9);
        Edge.allowed("8: the last column", LacehallPillowEdges::tenPairs, hall -> hall.end(9), 9);
        Edge.allowed("8: the last pair", hall -> hall.hang(5), hall -> hall.end(5), 0);
        for (int column : NO_COLUMNS) {
            Edge.refused("8: column " + column, LacehallPillowEdges::tenPairs, hall -> hall.end(column),
                    Edge.OUT);
        }
    }

    private static void columnWithoutAPair() {
        Edge.Steps two = LacehallPillowEdges::twoPairs;
        Edge.refused("8: no pair beside the first", two, hall -> hall.end(1), Edge.UNSUPPORTED);
        Edge.refused("8: no pair beside the last", two, hall -> hall.end(8), Edge.UNSUPPORTED);
        Edge.refused("8: it has ended", hall -> {
            two.on(hall);
            hall.end(9);
        }, hall -> hall.end(9), Edge.UNSUPPORTED);
    }

    private static void columnsToLookAt() {
        Edge.Steps two = LacehallPillowEdges::twoPairs;
        int[] due = {0, 1, -1, -1, -1, -1, -1, -1, -1, -1, -1, -1, -1, -1, -1, -1, -1, -1, 2, 3};
        for (int i = 0; i < due.length; i++) {
            int slot = i;
            Edge.looks("9: slot " + i, two, hall -> hall.threadIn(slot / 2, slot % 2 == 1), due[i]);
        }
        Edge.Steps ended = hall -> {
            two.on(hall);
            hall.end(9);
        };
        Edge.looks("9: an ended pair", ended, hall -> hall.threadIn(9, false), -1);
        Edge.looks("9: an ended pair", ended, hall -> hall.threadIn(9, true), -1);
        // Twice the least number wraps round to 0, and twice the next one to 2.
        for (int column : new int[] {MIN, MIN + 1, -1, 10, 11, 1 << 30, MAX}) {
            Edge.refused("9: column " + column, two, hall -> hall.threadIn(column, false), Edge.OUT);
            Edge.refused("9: column " + column, two, hall -> hall.threadIn(column, true), Edge.OUT);
        }
    }

    private static void threadNumbers() {
        Edge.Steps one = hall -> hall.hang(4);
        noThreads(one, MIN, -1, 2, 3, 19, 20, MAX);
        Edge.Steps ten = LacehallPillowEdges::tenPairs;
        noThreads(ten, MIN, -1, 20, 21, MAX);
        for (int thread : new int[] {0, 19}) {
            Edge.looks("10: thread " + thread, ten, hall -> hall.setColour(thread, 0), 0);
            Edge.allowed("11: thread " + thread, ten, hall -> hall.wind(thread, 1), 101);
            Edge.looks("12: thread " + thread, ten, hall -> hall.used(thread), 0);
            Edge.looks("13: thread " + thread, ten, hall -> hall.worn(thread), 0);
            Edge.looks("14: thread " + thread, ten, hall -> hall.endOf(thread, false), thread / 2);
            Edge.looks("15: thread " + thread, ten, hall -> hall.over(thread, 19 - thread), 0);
        }
    }

    private static void noThreads(Edge.Steps steps, int... threads) {
        for (int thread : threads) {
            String what = "thread " + thread;
            Edge.refused("10: " + what, steps, hall -> hall.setColour(thread, 1), Edge.OUT);
            Edge.refused("11: " + what, steps, hall -> hall.wind(thread, 1), Edge.OUT);
            Edge.refused("12: " + what, steps, hall -> hall.used(thread), Edge.OUT);
            Edge.refused("13: " + what, steps, hall -> hall.worn(thread), Edge.OUT);
            Edge.refused("14: began, " + what, steps, hall -> hall.endOf(thread, false), Edge.OUT);
            Edge.refused("14: ended, " + what, steps, hall -> hall.endOf(thread, true), Edge.OUT);
            Edge.refused("15: " + what, steps, hall -> hall.over(thread, 0), Edge.OUT);
            Edge.refused("15: other " + what, steps, hall -> hall.over(0, thread), Edge.OUT);
        }
    }

    private static void colours() {
        Edge.Steps coloured = hall -> {
            Halls.hang(hall, 0, 1);
            hall.setColour(1, 9);
            hall.setColour(2, 1);
        };
        Edge.allowed("10: at first", coloured, hall -> hall.setColour(0, 9), 0);
        Edge.allowed("10: the greatest", coloured, hall -> hall.setColour(1, 0), 9);
        Edge.allowed("10: it is the thread's own", coloured, hall -> hall.setColour(2, 9), 1);
        Edge.allowed("10: the next one has its own", coloured, hall -> hall.setColour(3, 1), 0);
        for (int colour : new int[] {MIN, -1, 10, MAX}) {
            Edge.refused("10: colour " + colour, coloured, hall -> hall.setColour(1, colour), Edge.ARGUMENT);
        }
        Edge.allowed("10: a thread that has ended", hall -> {
            coloured.on(hall);
            hall.end(0);
        }, hall -> hall.setColour(1, 3), 9);
    }

    private static void lengthsToWind() {
        Edge.Steps one = hall -> hall.hang(0);
        Edge.allowed("11: the least", one, hall -> hall.wind(1, 1), 101);
        Edge.allowed("11: the most", one, hall -> hall.wind(1, 999), 1099);
        for (int length : new int[] {MIN, -999, -1, 0, 1000, 1001, MAX}) {
            Edge.refused("11: length " + length, one, hall -> hall.wind(0, length), Edge.ARGUMENT);
        }
        Edge.allowed("11: a thread that has ended", hall -> {
            one.on(hall);
            hall.end(0);
        }, hall -> hall.wind(0, 999), 1099);
        // Of the 512 calls of an object 511 can wind; the sum has no edge of its own.
        Lacehall hall = Edge.made(one);
        for (int i = 1; i <= 511; i++) {
            Check.is("11: again and again", hall.wind(0, 999), 100 + 999 * i);
        }
    }

    private static void lengthsAtFirst() {
        Edge.Steps hung = hall -> {
            hall.hang(0);
            hall.wind(0, 50);
            hall.end(0);
            hall.hang(0);
        };
        Edge.allowed("11: new threads have 100", hung, hall -> hall.wind(2, 1), 101);
        Edge.allowed("11: new threads have 100", hung, hall -> hall.wind(3, 1), 101);
        Edge.allowed("11: the other one of the pair", hung, hall -> hall.wind(1, 1), 101);
        Edge.looks("12: winding uses nothing", hung, hall -> hall.used(0), 0);
    }

    private static void whereThreadsBeginAndEnd() {
        Edge.Steps carried = hall -> {
            Halls.stitches(hall, "ctc");
            Halls.hang(hall, 0, 1, 9);
            hall.pin(0, 0, 0);
            hall.work(0);
            hall.end(0);
            hall.end(9);
        };
        int[] began = {0, 0, 1, 1, 9, 9};
        int[] ended = {-1, -1, 0, 0, 9, 9};
        for (int i = 0; i < began.length; i++) {
            int thread = i;
            Edge.looks("14: " + i + " began", carried, hall -> hall.endOf(thread, false), began[i]);
            if (ended[i] < 0) {
                Edge.refused("14: " + i + " has not ended", carried, hall -> hall.endOf(thread, true),
                        Edge.NO_ELEMENT);
            } else {
                Edge.looks("14: " + i + " ended", carried, hall -> hall.endOf(thread, true), ended[i]);
            }
        }
        Edge.refused("14: a new one where one ended", hall -> {
            carried.on(hall);
            hall.hang(0);
        }, hall -> hall.endOf(6, true), Edge.NO_ELEMENT);
    }

    private static void overTheSame() {
        Edge.Steps ten = LacehallPillowEdges::tenPairs;
        for (int i = 0; i < 20; i++) {
            int thread = i;
            Edge.refused("15: " + i + " and itself", ten, hall -> hall.over(thread, thread), Edge.ARGUMENT);
        }
        Edge.Steps crossed = hall -> {
            Halls.stitches(hall, "cccccccc", "ttc");
            Halls.hang(hall, 8, 9);
            hall.pin(8, 0, 0);
            hall.pin(8, 99, 1);
            Halls.work(hall, 0, 1);
        };
        Edge.looks("15: above and below by turns", crossed, hall -> hall.over(1, 2), 5);
        Edge.looks("15: above and below by turns", crossed, hall -> hall.over(2, 1), 4);
        Edge.looks("15: a twist", crossed, hall -> hall.over(1, 0), 1);
        Edge.looks("15: a twist", crossed, hall -> hall.over(0, 1), 1);
        Edge.looks("15: never beside each other", crossed, hall -> hall.over(0, 3), 0);
        Edge.looks("15: threads that have ended", hall -> {
            crossed.on(hall);
            hall.end(8);
            hall.end(9);
        }, hall -> hall.over(1, 2), 5);
    }

    private static void meanOfNone() {
        Edge.refused("29: no threads", hall -> Halls.fullPatternWithoutPairs(hall), Lacehall::meanUsed,
                Edge.ARITHMETIC);
        Edge.looks("29: nothing used", hall -> hall.hang(0), Lacehall::meanUsed, 0.0);
        Edge.looks("29: all have ended", hall -> {
            Halls.stitches(hall, "c");
            Halls.hang(hall, 0, 1);
            hall.pin(0, 0, 0);
            hall.work(0);
            hall.end(0);
            hall.end(1);
        }, Lacehall::meanUsed, 2.5);
    }
}
