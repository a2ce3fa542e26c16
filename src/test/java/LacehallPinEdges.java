/**
 * The edges of pins, of what can be worked, of orders and of workers: promises 16 to 19, 22 to 24, 26 to 28
 * and 30.
 */
public final class LacehallPinEdges {
    private static final int MIN = Integer.MIN_VALUE;
    private static final int MAX = Integer.MAX_VALUE;

    public static void main(String[] arguments) {
        columnsOfPins();
        rowsOfPins();
        pinsThatTouch();
        pinAheadOfWorkedOnes();
        twelvePins();
        pinNumbers();
        aheadIsWorked();
        bothColumnsHavePairs();
        workedOnce();
        eachOfTheFourThreads();
        shortestThread();
        ordersOfNoneAndAll();
        indexOfAnOrder();
        colourPlaces();
        colourOfWorkedPins();
        numbersOfWorkers();
        minutesOfNoneAndAll();
        freeAndTakenInOneMinute();
        crossingsOfNoneAndAll();
        shareOfNoneAndAll();
        soundToTheLastLength();
        Check.finish("LacehallPinEdges");
    }

    private static void stitchAndPairs(Lacehall hall) {
        Halls.stitches(hall, "c");
        Halls.hangAll(hall);
    }

    private static Edge.Steps withPin(int column, int row) {
        return hall -> {
            stitchAndPairs(hall);
            hall.pin(column, row, 0);
        };
    }

    private static Edge.Steps withWorkedPin(int column, int row) {
        return hall -> {
            withPin(column, row).on(hall);
            hall.work(0);
        };
    }

    private static void columnsOfPins() {
        Edge.Steps none = LacehallPinEdges::stitchAndPairs;
        Edge.allowed("16: the first column", none, hall -> hall.pin(0, 5, 0), 0);
        Edge.allowed("16: the last column", none, hall -> hall.pin(8, 5, 0), 0);
        for (int column : new int[] {MIN, -1, 9, 10, MAX}) {
            Edge.refused("16: column " + column, none, hall -> hall.pin(column, 5, 0), Edge.OUT);
        }
        Edge.looks("17: with the last columns", withPin(8, 5), hall -> hall.canWork(0), true);
        Edge.looks("9: into the last column", withWorkedPin(8, 5), hall -> hall.threadIn(9, false), 17);
        Edge.looks("9: into the first column", withWorkedPin(0, 5), hall -> hall.threadIn(0, true), 2);
    }

    private static void rowsOfPins() {
        Edge.Steps none = LacehallPinEdges::stitchAndPairs;
        Edge.allowed("16: the first row", none, hall -> hall.pin(3, 0, 0), 0);
        Edge.allowed("16: the last row", none, hall -> hall.pin(3, 99, 0), 0);
        for (int row : new int[] {MIN, -1, 100, 101, MAX}) {
            Edge.refused("16: row " + row, none, hall -> hall.pin(3, row, 0), Edge.ARGUMENT);
        }
    }

    /** Of the columns round a pin those at most 1 apart touch it. */
    private static void pinsThatTouch() {
        for (int i = 2; i <= 6; i++) {
            int column = i;
            boolean isTouched = column >= 3 && column <= 5;
            String what = "16: column " + column + " beside 4, ";
            if (isTouched) {
                Edge.refused(what + "row 50", withPin(4, 50), hall -> hall.pin(column, 50, 0),
                        Edge.UNSUPPORTED);
            } else {
                Edge.allowed(what + "row 50", withPin(4, 50), hall -> hall.pin(column, 50, 0), 1);
            }
            Edge.allowed(what + "row 49", withPin(4, 50), hall -> hall.pin(column, 49, 0), 1);
            Edge.allowed(what + "row 51", withPin(4, 50), hall -> hall.pin(column, 51, 0), 1);
            Edge.Steps both = hall -> {
                withPin(4, 50).on(hall);
                hall.pin(column, 51, 0);
            };
            Edge.looks(what + "the row behind", both, hall -> hall.canWork(1), !isTouched);
            Edge.looks(what + "orders", both, Lacehall::orders, isTouched ? 1L : 2L);
        }
    }

    private static void pinAheadOfWorkedOnes() {
        for (int i = 2; i <= 6; i++) {
            int column = i;
            boolean isTouched = column >= 3 && column <= 5;
            String what = "16: column " + column + " beside 4 that is worked, row ";
            for (int j : new int[] {0, 49, 50}) {
                int row = j;
                if (isTouched) {
                    Edge.refused(what + row, withWorkedPin(4, 50), hall -> hall.pin(column, row, 0),
                            Edge.UNSUPPORTED);
                } else {
                    Edge.allowed(what + row, withWorkedPin(4, 50), hall -> hall.pin(column, row, 0), 1);
                }
            }
            Edge.allowed(what + 51, withWorkedPin(4, 50), hall -> hall.pin(column, 51, 0), 1);
        }
        Edge.allowed("16: it is undone", hall -> {
            withWorkedPin(4, 50).on(hall);
            hall.undo(0);
        }, hall -> hall.pin(4, 49, 0), 1);
        Edge.refused("16: one of two behind is worked", hall -> {
            stitchAndPairs(hall);
            hall.pin(3, 10, 0);
            hall.pin(5, 90, 0);
            hall.work(1);
        }, hall -> hall.pin(4, 9, 0), Edge.UNSUPPORTED);
        Edge.allowed("16: between a worked one and one that is not", hall -> {
            withWorkedPin(4, 50).on(hall);
            hall.pin(4, 52, 0);
        }, hall -> hall.pin(4, 51, 0), 2);
    }

    private static void twelvePins() {
        Edge.Steps eleven = hall -> {
            stitchAndPairs(hall);
            for (int i = 0; i < 11; i++) {
                hall.pin(4, 10 + i, 0);
            }
        };
        Edge.allowed("16: the twelfth", eleven, hall -> hall.pin(8, 0, 0), 11);
        Edge.refused("16: a thirteenth", Halls::fullPattern, hall -> hall.pin(8, 0, 0), Edge.STATE);
        Edge.refused("16: a thirteenth behind all", Halls::fullPattern, hall -> hall.pin(4, 99, 0), Edge.STATE);
        Edge.refused("16: worked pins count", hall -> {
            Halls.fullPattern(hall);
            Halls.work(hall, 1, 2, 3, 4, 5, 6, 7, 8, 9, 10, 11);
        }, hall -> hall.pin(4, 99, 0), Edge.STATE);
        Edge.allowed("18: the twelfth is worked", hall -> {
            Halls.fullPattern(hall);
            Halls.work(hall, 1, 2, 3, 4, 5, 6, 7, 8, 9, 10);
        }, hall -> hall.work(11), 12);
        Edge.looks("19: the twelfth is worked", hall -> {
            Halls.fullPattern(hall);
            Halls.work(hall, 1, 2, 3, 4, 5, 6, 7, 8, 9, 10, 11);
        }, hall -> hall.isWorked(11), true);
        Edge.allowed("20: all twelve", hall -> {
            Halls.fullPattern(hall);
            Halls.work(hall, 1, 2, 3, 4, 5, 6, 7, 8, 9, 10, 11);
        }, hall -> hall.undo(0), 12);
    }

    private static void pinNumbers() {
        noPins(LacehallPinEdges::stitchAndPairs, MIN, -1, 0, 1, MAX);
        noPins(withWorkedPin(4, 50), MIN, -32, -1, 1, 2, 11, 12, 31, 32, 33, MAX);
        noPins(Halls::fullPattern, MIN, -32, -20, -1, 12, 13, 32, 44, 64, MAX);
        Edge.looks("17: the last", Halls::fullPattern, hall -> hall.canWork(11), false);
        Edge.looks("19: the first", Halls::fullPattern, hall -> hall.isWorked(0), true);
        Edge.looks("19: the last", Halls::fullPattern, hall -> hall.isWorked(11), false);
    }

    private static void noPins(Edge.Steps steps, int... pins) {
        for (int pin : pins) {
            String what = "pin " + pin;
            Edge.refused("17: " + what, steps, hall -> hall.canWork(pin), Edge.OUT);
            Edge.refused("18: " + what, steps, hall -> hall.work(pin), Edge.OUT);
            Edge.refused("19: " + what, steps, hall -> hall.isWorked(pin), Edge.OUT);
            Edge.refused("20: " + what, steps, hall -> hall.undo(pin), Edge.OUT);
            Edge.refused("21: " + what, steps, hall -> hall.sew(4, pin), Edge.OUT);
            Edge.refused("24: " + what, steps, hall -> hall.colourAt(pin, 0), Edge.OUT);
        }
    }

    private static void canWork(String what, Edge.Steps steps, int pin, int due) {
        Edge.looks("17: " + what, steps, hall -> hall.canWork(pin), true);
        Edge.allowed("18: " + what, steps, hall -> hall.work(pin), due);
    }

    private static void cannotWork(String what, Edge.Steps steps, int pin) {
        Edge.looks("17: " + what, steps, hall -> hall.canWork(pin), false);
        Edge.refused("18: " + what, steps, hall -> hall.work(pin), Edge.UNSUPPORTED);
    }

    private static void threePinsInARow(Lacehall hall) {
        stitchAndPairs(hall);
        hall.pin(3, 10, 0);
        hall.pin(4, 30, 0);
        hall.pin(5, 20, 0);
        hall.pin(4, 40, 0);
    }

    private static Edge.Steps threePins(int... worked) {
        return hall -> {
            threePinsInARow(hall);
            Halls.work(hall, worked);
        };
    }

    private static void aheadIsWorked() {
        canWork("none is ahead", threePins(), 0, 1);
        canWork("none is ahead", threePins(), 2, 1);
        cannotWork("two are ahead", threePins(), 1);
        cannotWork("one of two is worked", threePins(0), 1);
        cannotWork("the other one of two is worked", threePins(2), 1);
        canWork("both are worked", threePins(2, 0), 1, 3);
        cannotWork("the last one ahead is missing", threePins(2, 0), 3);
        canWork("all ahead are worked", threePins(0, 2, 1), 3, 4);
        cannotWork("one ahead was added and undone", hall -> {
            threePins(0, 2).on(hall);
            hall.undo(2);
        }, 1);
        cannotWork("one was put ahead of it", hall -> {
            stitchAndPairs(hall);
            hall.pin(4, 1, 0);
            hall.pin(5, 0, 0);
        }, 0);
    }

    private static void bothColumnsHavePairs() {
        for (int i = 0; i <= 8; i += 4) {
            int column = i;
            Edge.Steps pin = hall -> {
                Halls.stitches(hall, "c");
                hall.pin(column, 0, 0);
            };
            cannotWork("no pair at " + i, pin, 0);
            cannotWork("the left pair alone at " + i, hall -> {
                pin.on(hall);
                hall.hang(column);
            }, 0);
            cannotWork("the right pair alone at " + i, hall -> {
                pin.on(hall);
                hall.hang(column + 1);
            }, 0);
            Edge.Steps both = hall -> {
                pin.on(hall);
                Halls.hang(hall, column, column + 1);
            };
            canWork("both pairs at " + i, both, 0, 1);
            cannotWork("the left pair has ended at " + i, hall -> {
                both.on(hall);
                hall.end(column);
            }, 0);
            cannotWork("the right pair has ended at " + i, hall -> {
                both.on(hall);
                hall.end(column + 1);
            }, 0);
        }
    }

    private static void workedOnce() {
        cannotWork("it is worked", withWorkedPin(4, 50), 0);
        canWork("it is undone", hall -> {
            withWorkedPin(4, 50).on(hall);
            hall.undo(0);
        }, 0, 1);
    }

    /**
     * Nothing is left of four threads: the first pin uses 4 of each, and 32 sewings the other 96.
     * The stitch of the second pin uses 4, 3, 5 and 2 of them, which are all unlike.
     */
    private static void allUsed(Lacehall hall) {
        Halls.stitches(hall, "tt", "cll");
        Halls.hang(hall, 0, 1);
        hall.pin(0, 0, 0);
        hall.pin(0, 1, 1);
        hall.work(0);
        Halls.sew(hall, 32, 0, 0);
        Halls.sew(hall, 32, 1, 0);
    }

    private static Edge.Steps woundAgain(int... lengths) {
        return hall -> {
            allUsed(hall);
            for (int thread = 0; thread < lengths.length; thread++) {
                if (lengths[thread] > 0) {
                    hall.wind(thread, lengths[thread]);
                }
            }
        };
    }

    private static void eachOfTheFourThreads() {
        cannotWork("nothing left", woundAgain(0, 0, 0, 0), 1);
        canWork("just enough of each", woundAgain(4, 3, 5, 2), 1, 2);
        cannotWork("one too few in the place 0", woundAgain(3, 3, 5, 2), 1);
        cannotWork("one too few in the place 1", woundAgain(4, 2, 5, 2), 1);
        cannotWork("one too few in the place 2", woundAgain(4, 3, 4, 2), 1);
        cannotWork("one too few in the place 3", woundAgain(4, 3, 5, 1), 1);
        cannotWork("one too few, the others long", woundAgain(999, 999, 999, 1), 1);
        cannotWork("nothing of one, the others long", woundAgain(0, 999, 999, 999), 1);
        canWork("more than enough", woundAgain(5, 4, 6, 3), 1, 2);
        int[] due = {104, 103, 105, 102};
        Lacehall hall = Edge.made(woundAgain(4, 3, 5, 2));
        hall.work(1);
        for (int thread = 0; thread < 4; thread++) {
            Check.is("12: all of it is used", hall.used(thread), due[thread]);
        }
        Check.is("30: all of it is used", hall.isSound(), true);
    }

    /** The stitches that use the least and the most of a thread, with 100 wound. */
    private static void shortestThread() {
        Edge.Steps least = hall -> {
            Halls.stitches(hall, "r");
            Halls.hang(hall, 0, 1);
            hall.pin(0, 0, 0);
            hall.work(0);
        };
        Edge.looks("12: 2 without a crossing", least, hall -> hall.used(0), 2);
        Edge.looks("12: 3 with one", least, hall -> hall.used(3), 3);
        Edge.Steps most = hall -> {
            Halls.stitches(hall, "tttttttt");
            Halls.hang(hall, 0, 1);
            for (int i = 0; i < 11; i++) {
                hall.pin(0, i, 0);
            }
        };
        Edge.Steps nine = hall -> {
            most.on(hall);
            Halls.work(hall, 0, 1, 2, 3, 4, 5, 6, 7, 8);
        };
        canWork("10 of 10 left", nine, 9, 10);
        Edge.Steps ten = hall -> {
            nine.on(hall);
            hall.work(9);
        };
        Edge.looks("12: 10 each time", ten, hall -> hall.used(3), 100);
        cannotWork("nothing left", ten, 10);
    }

    private static void ordersOfNoneAndAll() {
        Edge.Steps none = LacehallPinEdges::stitchAndPairs;
        Edge.looks("22: without pins", none, Lacehall::orders, 1L);
        Edge.looks("22: one pin", withPin(4, 50), Lacehall::orders, 1L);
        Edge.looks("22: one worked pin", withWorkedPin(4, 50), Lacehall::orders, 1L);
        Edge.looks("22: twelve in a chain", Halls::fullPattern, Lacehall::orders, 1L);
        // 12! by 3! for each of two columns and 2! for each of three: no twelve pins have more orders.
        Edge.looks("22: twelve in five columns", hall -> {
            Halls.stitches(hall, "c");
            for (int i = 0; i < 12; i++) {
                hall.pin(i % 5 * 2, i, 0);
            }
        }, Lacehall::orders, 1663200L);
        Edge.looks("22: no pairs are asked for", hall -> {
            Halls.stitches(hall, "c");
            hall.pin(0, 0, 0);
            hall.pin(2, 0, 0);
        }, Lacehall::orders, 2L);
    }

    private static void indexOfAnOrder() {
        for (int index : new int[] {MIN, -1, 0, 1, 11, 12, MAX}) {
            Edge.refused("23: without pins, index " + index, LacehallPinEdges::stitchAndPairs,
                    hall -> hall.orderAt(index), Edge.OUT);
        }
        for (int index : new int[] {MIN, -1, 1, 12, MAX}) {
            Edge.refused("23: one pin, index " + index, withPin(4, 50), hall -> hall.orderAt(index), Edge.OUT);
        }
        Edge.looks("23: one pin", withPin(4, 50), hall -> hall.orderAt(0), 0);
        Edge.Steps backwards = hall -> {
            Halls.stitches(hall, "c");
            for (int i = 0; i < 12; i++) {
                hall.pin(i % 2, 99 - i, 0);
            }
        };
        for (int i = 0; i < 12; i++) {
            int index = i;
            Edge.looks("23: index " + i, backwards, hall -> hall.orderAt(index), 11 - i);
        }
        for (int index : new int[] {MIN, -1, 12, 13, MAX}) {
            Edge.refused("23: twelve pins, index " + index, backwards, hall -> hall.orderAt(index), Edge.OUT);
        }
        // The lowest pin comes as soon as it can: the pin 0 at once behind the pin 3.
        Edge.Steps lowFirst = hall -> {
            Halls.stitches(hall, "c");
            hall.pin(4, 9, 0);
            hall.pin(0, 0, 0);
            hall.pin(8, 0, 0);
            hall.pin(5, 8, 0);
        };
        int[] due = {1, 2, 3, 0};
        for (int i = 0; i < 4; i++) {
            int index = i;
            Edge.looks("23: low ones first, index " + i, lowFirst, hall -> hall.orderAt(index), due[i]);
        }
    }

    private static void coloured(Lacehall hall) {
        Halls.stitches(hall, "ct");
        Halls.hang(hall, 8, 9);
        for (int thread = 0; thread < 4; thread++) {
            hall.setColour(thread, 6 + thread);
        }
        hall.pin(8, 0, 0);
    }

    private static void colourPlaces() {
        Edge.Steps worked = hall -> {
            coloured(hall);
            hall.work(0);
        };
        int[] due = {8, 6, 9, 7};
        for (int i = 0; i < 4; i++) {
            int place = i;
            Edge.looks("24: place " + i, worked, hall -> hall.colourAt(0, place), due[i]);
        }
        for (int place : new int[] {MIN, -1, 4, 5, MAX}) {
            Edge.refused("24: place " + place, worked, hall -> hall.colourAt(0, place), Edge.ARGUMENT);
        }
    }

    private static void colourOfWorkedPins() {
        Edge.refused("24: not worked yet", LacehallPinEdges::coloured, hall -> hall.colourAt(0, 0),
                Edge.UNSUPPORTED);
        Edge.Steps undone = hall -> {
            coloured(hall);
            hall.work(0);
            hall.undo(0);
        };
        Edge.refused("24: undone", undone, hall -> hall.colourAt(0, 0), Edge.UNSUPPORTED);
        Edge.looks("24: worked again with another pair", hall -> {
            undone.on(hall);
            hall.end(9);
            hall.hang(9);
            hall.setColour(4, 1);
            hall.work(0);
        }, hall -> hall.colourAt(0, 0), 1);
        Edge.looks("24: the colour that it has now", hall -> {
            coloured(hall);
            hall.work(0);
            hall.end(8);
            hall.setColour(2, 0);
        }, hall -> hall.colourAt(0, 0), 0);
    }

    private static void numbersOfWorkers() {
        Edge.Steps apart = hall -> {
            Halls.stitches(hall, "ccc");
            for (int column = 0; column <= 8; column += 2) {
                hall.pin(column, 7, 0);
            }
        };
        int[] due = {15, 9, 6, 6};
        for (int i = 1; i <= 4; i++) {
            int workers = i;
            Edge.looks("26: workers " + i, apart, hall -> hall.minutes(workers), due[i - 1]);
        }
        for (int workers : new int[] {MIN, -1, 0, 5, 6, MAX}) {
            Edge.refused("26: workers " + workers, apart, hall -> hall.minutes(workers), Edge.ARGUMENT);
            Edge.refused("26: without pins, workers " + workers, hall -> { }, hall -> hall.minutes(workers),
                    Edge.ARGUMENT);
        }
    }

    private static void minutesOfNoneAndAll() {
        Edge.Steps longest = hall -> {
            Halls.stitches(hall, "cccccccc");
            Halls.twelvePins(hall);
        };
        for (int i = 1; i <= 4; i++) {
            int workers = i;
            Edge.looks("26: without pins", LacehallPinEdges::stitchAndPairs, hall -> hall.minutes(workers), 0);
            Edge.looks("26: one letter", withPin(4, 50), hall -> hall.minutes(workers), 1);
            Edge.looks("26: worked ones count", withWorkedPin(4, 50), hall -> hall.minutes(workers), 1);
            Edge.looks("26: the longest", longest, hall -> hall.minutes(workers), 96);
        }
    }

    /** A worker is free in the minute in which a pin ends, and what is behind it can be taken in it. */
    private static void freeAndTakenInOneMinute() {
        Edge.Steps chain = hall -> {
            Halls.stitches(hall, "c", "ccc");
            hall.pin(0, 0, 0);
            hall.pin(1, 1, 0);
            hall.pin(4, 0, 1);
        };
        Edge.looks("26: one behind the other", chain, hall -> hall.minutes(2), 3);
        Edge.looks("26: one worker", chain, hall -> hall.minutes(1), 5);
        // In the minute 1 the pin 1 still waits for the pin 2, so who is free takes the pin 3.
        Edge.Steps waiting = hall -> {
            Halls.stitches(hall, "c", "cc", "cccccccc");
            hall.pin(8, 0, 0);
            hall.pin(1, 9, 2);
            hall.pin(0, 5, 1);
            hall.pin(4, 5, 2);
        };
        Edge.looks("26: two, one waits", waiting, hall -> hall.minutes(2), 10);
        Edge.looks("26: three, one waits", waiting, hall -> hall.minutes(3), 10);
        Edge.looks("26: one never waits", waiting, hall -> hall.minutes(1), 19);
        // The lowest number is taken first, not the lowest row and not the longest stitch.
        Edge.Steps numbers = hall -> {
            Halls.stitches(hall, "c", "cccc");
            hall.pin(8, 9, 0);
            hall.pin(6, 8, 0);
            hall.pin(4, 0, 1);
        };
        Edge.looks("26: by number", numbers, hall -> hall.minutes(2), 5);
    }

    private static void crossingsOfNoneAndAll() {
        Edge.looks("27: none worked", withPin(4, 50), Lacehall::allCrossings, 0L);
        Edge.Steps most = hall -> {
            Halls.stitches(hall, "tttttttt");
            Halls.hangAll(hall);
            for (int i = 0; i < 12; i++) {
                hall.pin(i % 4 * 2, i, 0);
                hall.work(i);
            }
        };
        Edge.looks("27: the most", most, Lacehall::allCrossings, 192L);
        Edge.looks("27: all undone", hall -> {
            withWorkedPin(4, 50).on(hall);
            hall.undo(0);
        }, Lacehall::allCrossings, 0L);
    }

    private static void shareOfNoneAndAll() {
        Edge.refused("28: no pins", LacehallPinEdges::stitchAndPairs, Lacehall::workedShare, Edge.ARITHMETIC);
        Edge.looks("28: none worked", withPin(4, 50), Lacehall::workedShare, 0.0f);
        Edge.looks("28: all worked", withWorkedPin(4, 50), Lacehall::workedShare, 1.0f);
        Edge.looks("28: one of twelve", Halls::fullPattern, Lacehall::workedShare, 1.0f / 12.0f);
        Edge.looks("28: eleven of twelve", hall -> {
            Halls.fullPattern(hall);
            Halls.work(hall, 1, 2, 3, 4, 5, 6, 7, 8, 9, 10);
        }, Lacehall::workedShare, 11.0f / 12.0f);
    }

    private static void soundToTheLastLength() {
        Edge.looks("30: nothing left", LacehallPinEdges::allUsed, Lacehall::isSound, true);
        Edge.looks("30: twelve worked and undone", hall -> {
            Halls.fullPattern(hall);
            Halls.work(hall, 1, 2, 3, 4, 5, 6, 7, 8, 9, 10, 11);
            hall.undo(0);
        }, Lacehall::isSound, true);
        Edge.looks("30: a pair ended and another one hung between two pins", hall -> {
            Halls.stitches(hall, "ct");
            Halls.hang(hall, 0, 1);
            hall.pin(0, 0, 0);
            hall.pin(0, 1, 0);
            hall.work(0);
            hall.end(1);
            hall.hang(1);
            hall.sew(1, 0);
            hall.work(1);
            hall.end(0);
        }, Lacehall::isSound, true);
    }
}
