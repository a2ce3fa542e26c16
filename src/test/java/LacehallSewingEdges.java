/** The edges of sewings and of what bars an undoing: promises 13, 20 and 21. */
public final class LacehallSewingEdges {
    private static final int MIN = Integer.MIN_VALUE;
    private static final int MAX = Integer.MAX_VALUE;

    public static void main(String[] arguments) {
        columnsToSewFrom();
        columnsAtTheEdgeOfThePillow();
        pairAndPinToSew();
        lengthToSew();
        sewingsOfTheWholeHall();
        pinThatIsNotWorked();
        asIfNotWorked();
        wearOfUndoing();
        whatComesBehind();
        sewnInAColumn();
        sewnToOneOfThese();
        endedInAColumn();
        hungInAColumn();
        beforeItWasWorked();
        sinceThePinItself();
        workedAgain();
        Check.finish("LacehallSewingEdges");
    }

    /** A pin at a column with all pairs, which is worked. */
    private static Edge.Steps workedAt(int column) {
        return hall -> {
            Halls.stitches(hall, "c");
            Halls.hangAll(hall);
            hall.pin(column, 5, 0);
            hall.work(0);
        };
    }

    private static void columnsToSewFrom() {
        for (int i = 0; i < 10; i++) {
            int column = i;
            if (column >= 3 && column <= 6) {
                Edge.allowed("21: from " + i + " to 4", workedAt(4), hall -> hall.sew(column, 0), 1);
            } else {
                Edge.refused("21: from " + i + " to 4", workedAt(4), hall -> hall.sew(column, 0),
                        Edge.UNSUPPORTED);
            }
        }
        for (int column : new int[] {MIN, -1, 10, 11, MAX}) {
            Edge.refused("21: column " + column, workedAt(4), hall -> hall.sew(column, 0), Edge.OUT);
        }
    }

    private static void columnsAtTheEdgeOfThePillow() {
        Edge.allowed("21: from 0 to 0", workedAt(0), hall -> hall.sew(0, 0), 1);
        Edge.allowed("21: from 2 to 0", workedAt(0), hall -> hall.sew(2, 0), 1);
        Edge.refused("21: from 3 to 0", workedAt(0), hall -> hall.sew(3, 0), Edge.UNSUPPORTED);
        Edge.refused("21: from -1 to 0", workedAt(0), hall -> hall.sew(-1, 0), Edge.OUT);
        Edge.allowed("21: from 9 to 8", workedAt(8), hall -> hall.sew(9, 0), 1);
        Edge.allowed("21: from 7 to 8", workedAt(8), hall -> hall.sew(7, 0), 1);
        Edge.refused("21: from 6 to 8", workedAt(8), hall -> hall.sew(6, 0), Edge.UNSUPPORTED);
        Edge.refused("21: from 10 to 8", workedAt(8), hall -> hall.sew(10, 0), Edge.OUT);
        Edge.allowed("21: from 9 to 7", workedAt(7), hall -> hall.sew(9, 0), 1);
        Edge.refused("21: from 9 to 6", workedAt(6), hall -> hall.sew(9, 0), Edge.UNSUPPORTED);
    }

    private static void pairAndPinToSew() {
        for (int i = 3; i <= 6; i++) {
            int column = i;
            Edge.refused("21: no pair at " + i, hall -> {
                workedAt(4).on(hall);
                hall.end(column);
            }, hall -> hall.sew(column, 0), Edge.UNSUPPORTED);
        }
        Edge.allowed("21: the pair beside has ended", hall -> {
            workedAt(4).on(hall);
            hall.end(4);
        }, hall -> hall.sew(5, 0), 1);
        Edge.refused("21: the pin is not worked yet", hall -> {
            workedAt(4).on(hall);
            hall.pin(4, 6, 0);
        }, hall -> hall.sew(4, 1), Edge.UNSUPPORTED);
        Edge.refused("21: the pin is undone", hall -> {
            workedAt(4).on(hall);
            hall.undo(0);
        }, hall -> hall.sew(4, 0), Edge.UNSUPPORTED);
        Edge.allowed("21: the pin is worked again", hall -> {
            workedAt(4).on(hall);
            hall.undo(0);
            hall.work(0);
        }, hall -> hall.sew(4, 0), 1);
    }

    /** The pin uses 4 of each thread, so that 96 are left: 32 sewings. */
    private static Edge.Steps sewn(int times) {
        return hall -> {
            Halls.stitches(hall, "tt");
            Halls.hang(hall, 3, 4);
            hall.pin(3, 0, 0);
            hall.work(0);
            Halls.sew(hall, times, 3, 0);
        };
    }

    private static Edge.Steps sewnAndWound(int left, int right) {
        return hall -> {
            sewn(32).on(hall);
            hall.wind(0, left);
            hall.wind(1, right);
        };
    }

    private static void lengthToSew() {
        Edge.allowed("21: 3 of both are left", sewn(31), hall -> hall.sew(3, 0), 32);
        Edge.refused("21: nothing is left", sewn(32), hall -> hall.sew(3, 0), Edge.UNSUPPORTED);
        Edge.allowed("21: the pair beside has enough", sewn(32), hall -> hall.sew(4, 0), 33);
        Edge.allowed("21: 3 of each are left", sewnAndWound(3, 3), hall -> hall.sew(3, 0), 33);
        Edge.refused("21: 2 of the left one", sewnAndWound(2, 3), hall -> hall.sew(3, 0), Edge.UNSUPPORTED);
        Edge.refused("21: 2 of the right one", sewnAndWound(3, 2), hall -> hall.sew(3, 0), Edge.UNSUPPORTED);
        Edge.refused("21: 2 of the left one alone", sewnAndWound(2, 999), hall -> hall.sew(3, 0),
                Edge.UNSUPPORTED);
        Edge.refused("21: 2 of the right one alone", sewnAndWound(999, 2), hall -> hall.sew(3, 0),
                Edge.UNSUPPORTED);
        Edge.Steps all = hall -> {
            sewnAndWound(3, 3).on(hall);
            hall.sew(3, 0);
        };
        Edge.looks("12: 3 of the left one", all, hall -> hall.used(0), 103);
        Edge.looks("12: 3 of the right one", all, hall -> hall.used(1), 103);
        Edge.looks("12: none of the next pair", all, hall -> hall.used(2), 4);
        Edge.looks("30: all of it is used", all, Lacehall::isSound, true);
    }

    private static void sewingsOfTheWholeHall() {
        Edge.Steps two = hall -> {
            workedAt(4).on(hall);
            hall.pin(0, 0, 0);
            hall.pin(7, 0, 0);
            hall.work(1);
            hall.sew(4, 0);
            hall.sew(0, 1);
        };
        Edge.allowed("21: all pins and pairs count", two, hall -> hall.sew(6, 0), 3);
        Edge.allowed("21: refused ones do not", hall -> {
            two.on(hall);
            Check.outcome(() -> hall.sew(9, 0));
        }, hall -> hall.sew(6, 0), 3);
        Edge.allowed("21: an undoing takes none back", hall -> {
            two.on(hall);
            hall.work(2);
            hall.undo(2);
        }, hall -> hall.sew(6, 0), 3);
        Edge.allowed("21: they stay when a pair ends", hall -> {
            two.on(hall);
            hall.end(4);
        }, hall -> hall.sew(6, 0), 3);
    }

    /** The pins 0, 1 and 2 come one behind the other; 3 and 4 stand on either side of them. */
    private static void chainWithoutPairs(Lacehall hall) {
        Halls.stitches(hall, "ct", "cl");
        hall.pin(3, 10, 0);
        hall.pin(4, 20, 1);
        hall.pin(5, 30, 0);
        hall.pin(1, 10, 0);
        hall.pin(7, 30, 1);
    }

    private static Edge.Steps chain(int... worked) {
        return hall -> {
            chainWithoutPairs(hall);
            Halls.hangAll(hall);
            Halls.work(hall, worked);
        };
    }

    /** Pairs in the columns 1 to 6, so that there are threads left to hang. */
    private static Edge.Steps shortChain(int... worked) {
        return hall -> {
            chainWithoutPairs(hall);
            Halls.hang(hall, 1, 2, 3, 4, 5, 6);
            Halls.work(hall, worked);
        };
    }

    private static Edge.Steps chainAndSewing(int column, int pin) {
        return hall -> {
            chain(3, 4, 0, 1, 2).on(hall);
            hall.sew(column, pin);
        };
    }

    private static void pinThatIsNotWorked() {
        Edge.refused("20: never worked", chain(0), hall -> hall.undo(1), Edge.UNSUPPORTED);
        Edge.refused("20: undone", hall -> {
            chain(0, 1).on(hall);
            hall.undo(1);
        }, hall -> hall.undo(1), Edge.UNSUPPORTED);
        Edge.refused("20: undone with another one", hall -> {
            chain(0, 1).on(hall);
            hall.undo(0);
        }, hall -> hall.undo(1), Edge.UNSUPPORTED);
        Edge.allowed("20: the last worked one", chain(0), hall -> hall.undo(0), 1);
    }

    private static void asIfNotWorked(String what, int undone, int[] worked, int[] left) {
        Check.is("20: " + what, Edge.toldButWear(hall -> {
            chain(worked).on(hall);
            hall.undo(undone);
        }), Edge.toldButWear(chain(left)));
    }

    private static void asIfNotWorked() {
        asIfNotWorked("one alone", 0, new int[] {0}, new int[] {});
        asIfNotWorked("the last of three", 2, new int[] {0, 1, 2}, new int[] {0, 1});
        asIfNotWorked("the last two of three", 1, new int[] {0, 1, 2}, new int[] {0});
        asIfNotWorked("all three", 0, new int[] {0, 1, 2}, new int[] {});
        asIfNotWorked("three of five", 0, new int[] {3, 0, 1, 4, 2}, new int[] {3, 4});
        asIfNotWorked("one beside them", 3, new int[] {3, 0, 1, 4, 2}, new int[] {0, 1, 4, 2});
        asIfNotWorked("one beside them", 4, new int[] {4, 3, 0, 1, 2}, new int[] {3, 0, 1, 2});
        Check.is("20: undone and worked again", Edge.toldButWear(hall -> {
            chain(3, 0, 1, 2).on(hall);
            hall.undo(0);
            Halls.work(hall, 0, 1, 2);
        }), Edge.toldButWear(chain(3, 0, 1, 2)));
    }

    private static void worn(String what, Edge.Steps steps, int... due) {
        for (int i = 0; i < due.length; i++) {
            int thread = i;
            Edge.looks("13: " + what + ", thread " + i, steps, hall -> hall.worn(thread), due[i]);
        }
    }

    private static Edge.Steps undoneTimes(int times, String word) {
        return hall -> {
            Halls.stitches(hall, word);
            Halls.hang(hall, 0, 1);
            hall.pin(0, 0, 0);
            for (int i = 0; i < times; i++) {
                hall.work(0);
                hall.undo(0);
            }
        };
    }

    private static void wearOfUndoing() {
        worn("no crossing", undoneTimes(0, "cll"), 0, 0, 0, 0);
        worn("each crossing", undoneTimes(1, "cll"), 2, 1, 3, 0);
        worn("each time", undoneTimes(2, "cll"), 4, 2, 6, 0);
        worn("the most of one stitch", undoneTimes(1, "tttttttt"), 8, 8, 8, 8);
        worn("many times", undoneTimes(100, "tttttttt"), 800, 800, 800, 800);
        worn("the pins behind as well", hall -> {
            chain(0, 1).on(hall);
            hall.undo(0);
        }, 0, 0, 0, 0, 0, 0, 1, 2 + 1, 2, 1 + 1, 2, 0);
        worn("a sewing does not", hall -> {
            chain(0).on(hall);
            hall.sew(2, 0);
            Check.outcome(() -> hall.undo(0));
        }, 0, 0, 0, 0, 0, 0, 0, 0, 0, 0);
        Edge.looks("12: what was used is free again", undoneTimes(100, "tttttttt"), hall -> hall.used(0), 0);
    }

    private static void whatComesBehind() {
        Edge.allowed("20: the last alone", chain(3, 4, 0, 1, 2), hall -> hall.undo(2), 1);
        Edge.allowed("20: one behind it", chain(3, 4, 0, 1, 2), hall -> hall.undo(1), 2);
        Edge.allowed("20: one behind that as well", chain(3, 4, 0, 1, 2), hall -> hall.undo(0), 3);
        Edge.allowed("20: what is not worked does not count", chain(3, 4, 0, 1), hall -> hall.undo(0), 2);
        Edge.allowed("20: two columns away", chain(3, 4, 0, 1, 2), hall -> hall.undo(3), 1);
        Edge.allowed("20: two columns away", chain(3, 4, 0, 1, 2), hall -> hall.undo(4), 1);
        // The pin 8 is ahead of the pin 7 alone, that one of the pin 6, and so on to the pin 0.
        Edge.Steps backwards = hall -> {
            Halls.stitches(hall, "ctc");
            Halls.hangAll(hall);
            for (int column = 8; column >= 0; column--) {
                hall.pin(column, column, 0);
            }
            Halls.work(hall, 8, 7, 6, 5, 4, 3, 2, 1, 0);
        };
        for (int i = 0; i < 9; i++) {
            int pin = i;
            Edge.allowed("20: a row of pins from " + i, backwards, hall -> hall.undo(pin), i + 1);
        }
    }

    private static void bars(String what, Edge.Steps steps, int pin) {
        Edge.refused("20: " + what + " bars " + pin, steps, hall -> hall.undo(pin), Edge.UNSUPPORTED);
    }

    private static void lets(String what, Edge.Steps steps, int pin, int due) {
        Edge.allowed("20: " + what + " lets " + pin, steps, hall -> hall.undo(pin), due);
    }

    /** The pins 0, 1 and 2 have the columns 3 to 6; from 2 and 7 on nothing is theirs. */
    private static void sewnInAColumn() {
        lets("sewn in 2 to 3", chainAndSewing(2, 3), 0, 3);
        bars("sewn in 3 to 3", chainAndSewing(3, 3), 0);
        lets("sewn in 3 to 3", chainAndSewing(3, 3), 1, 2);
        bars("sewn in 6 to 4", chainAndSewing(6, 4), 0);
        bars("sewn in 6 to 4", chainAndSewing(6, 4), 1);
        bars("sewn in 6 to 4", chainAndSewing(6, 4), 2);
        lets("sewn in 7 to 4", chainAndSewing(7, 4), 0, 3);
        lets("sewn in 6 to 4", chainAndSewing(6, 4), 3, 1);
        bars("sewn in 2 to 3", chainAndSewing(2, 3), 3);
        bars("sewn in 1 to 3", chainAndSewing(1, 3), 3);
        bars("sewn in 8 to 4", chainAndSewing(8, 4), 4);
        bars("sewn in 4 to 0", chainAndSewing(4, 0), 1);
        lets("sewn in 4 to 0", chainAndSewing(4, 0), 2, 1);
        lets("sewn in 4 to 0", chainAndSewing(4, 0), 3, 1);
    }

    /** Sewn from columns that are none of these pins'. */
    private static void sewnToOneOfThese() {
        bars("sewn to 0 from beside", chainAndSewing(2, 0), 0);
        lets("sewn to 0 from beside", chainAndSewing(2, 0), 1, 2);
        bars("sewn to 2 from beside", chainAndSewing(7, 2), 2);
        bars("sewn to 2 from beside", chainAndSewing(7, 2), 1);
        bars("sewn to 2 from beside", chainAndSewing(7, 2), 0);
        bars("sewn to 3 from beside", chainAndSewing(0, 3), 3);
        bars("sewn to 3 from the second column behind", chainAndSewing(3, 3), 3);
        bars("sewn to 4 from beside", chainAndSewing(9, 4), 4);
        bars("sewn to 4 from the column ahead", chainAndSewing(6, 4), 4);
        // The column 2 is one of the pin 3, and the column 7 one of the pin 4.
        bars("sewn to 0 in its column", chainAndSewing(2, 0), 3);
        bars("sewn to 2 in its column", chainAndSewing(7, 2), 4);
    }

    private static void endedInAColumn() {
        for (int i = 0; i < 10; i++) {
            int column = i;
            Edge.Steps ended = hall -> {
                chain(3, 4, 0, 1, 2).on(hall);
                hall.end(column);
            };
            String what = "ended in " + i;
            int[][] pins = {{0, 3, 6, 3}, {1, 4, 6, 2}, {2, 5, 6, 1}, {3, 1, 2, 1}, {4, 7, 8, 1}};
            for (int[] pin : pins) {
                if (column >= pin[1] && column <= pin[2]) {
                    bars(what, ended, pin[0]);
                } else {
                    lets(what, ended, pin[0], pin[3]);
                }
            }
        }
    }

    /** Of the pin's own columns a pair must end before one can be hung, so that this bars already. */
    private static void hungInAColumn() {
        Edge.Steps unused = hall -> {
            chainWithoutPairs(hall);
            Halls.hang(hall, 3, 4);
            hall.work(0);
            hall.hang(5);
        };
        lets("hung in 5, no pin there is worked", unused, 0, 1);
        Edge.Steps hung = hall -> {
            unused.on(hall);
            hall.work(1);
        };
        bars("hung in 5, between the pins", hung, 0);
        lets("hung in 5, before the pin", hung, 1, 1);
        Edge.Steps nextOne = hall -> {
            chainWithoutPairs(hall);
            Halls.hang(hall, 3, 4, 5);
            Halls.work(hall, 0, 1);
            hall.hang(6);
            hall.work(2);
        };
        bars("hung in the next column of the last", nextOne, 0);
        bars("hung in the next column of the last", nextOne, 1);
        lets("hung before the last", nextOne, 2, 1);
        Edge.Steps beside = hall -> {
            chainWithoutPairs(hall);
            Halls.hang(hall, 3, 4, 5, 6);
            Halls.work(hall, 0, 1, 2);
            Halls.hang(hall, 2, 7, 0, 9);
        };
        lets("hung beside all", beside, 0, 3);
        bars("ended and hung in 3", hall -> {
            shortChain(0).on(hall);
            hall.end(3);
            hall.hang(3);
        }, 0);
    }

    private static void beforeItWasWorked() {
        lets("ended and hung before", hall -> {
            shortChain().on(hall);
            hall.end(3);
            hall.hang(3);
            hall.work(0);
        }, 0, 1);
        lets("sewn in its column before", hall -> {
            chain(3).on(hall);
            hall.sew(3, 3);
            hall.work(0);
        }, 0, 1);
        bars("sewn in its column at once behind it", hall -> {
            chain(3).on(hall);
            hall.work(0);
            hall.sew(3, 3);
        }, 0);
    }

    /** What was done since the pin itself was worked counts, also if one behind it was worked later. */
    private static void sinceThePinItself() {
        Edge.Steps between = hall -> {
            chain(4, 0).on(hall);
            hall.sew(6, 4);
            Halls.work(hall, 1, 2);
        };
        bars("sewn in 6 before the last", between, 0);
        lets("sewn in 6 before it", between, 1, 2);
        lets("sewn in 6 before it", between, 2, 1);
        Edge.Steps endedBetween = hall -> {
            shortChain(0, 1).on(hall);
            hall.end(6);
            hall.hang(6);
            hall.work(2);
        };
        bars("ended in 6 before the last", endedBetween, 0);
        bars("ended in 6 before the last", endedBetween, 1);
        lets("ended in 6 before it", endedBetween, 2, 1);
    }

    private static void workedAgain() {
        lets("sewn while it was undone", hall -> {
            chain(3, 0).on(hall);
            hall.undo(0);
            hall.sew(3, 3);
            hall.work(0);
        }, 0, 1);
        bars("sewn since it was worked again", hall -> {
            chain(3, 0).on(hall);
            hall.undo(0);
            hall.work(0);
            hall.sew(3, 3);
        }, 0);
        lets("ended while it was undone", hall -> {
            shortChain(0).on(hall);
            hall.undo(0);
            hall.end(4);
            hall.hang(4);
            hall.work(0);
        }, 0, 1);
    }
}
