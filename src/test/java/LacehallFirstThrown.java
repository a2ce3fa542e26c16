/** Where several conditions of a method apply, the first one listed is thrown, and nothing is changed. */
public final class LacehallFirstThrown {
    /** A worked pin of the row 10 at the column 4 and eleven more of the rows behind it. */
    private static final Edge.Steps FULL = Halls::fullPattern;
    private static final int[] NO_COLUMNS = {Integer.MIN_VALUE, -1, 10, Integer.MAX_VALUE};
    private static final int[] NO_PIN_COLUMNS = {Integer.MIN_VALUE, -1, 9, Integer.MAX_VALUE};
    private static final int[] NO_PINS = {Integer.MIN_VALUE, -1, 12, Integer.MAX_VALUE};
    private static final int[] NO_THREADS = {Integer.MIN_VALUE, -1, 4, Integer.MAX_VALUE};
    private static final int[] NO_STITCHES = {Integer.MIN_VALUE, -1, 1, Integer.MAX_VALUE};
    private static final int[] NO_ROWS = {Integer.MIN_VALUE, -1, 100, Integer.MAX_VALUE};
    private static final int[] NO_PLACES = {Integer.MIN_VALUE, -1, 4, Integer.MAX_VALUE};

    public static void main(String[] arguments) {
        letters();
        stitches();
        pairs();
        threads();
        pinColumnsAndStitches();
        pinRows();
        pinsInTheWay();
        sewings();
        worked();
        colours();
        grounds();
        Check.finish("LacehallFirstThrown");
    }

    private static void letters() {
        for (char letter : new char[] {'x', 'C', 0, 0xffff}) {
            Edge.refused("2: no letter, and eight", hall -> Halls.letters(hall, "clrtclrt"),
                    hall -> hall.letter(letter), Edge.ARGUMENT);
        }
    }

    private static void stitches() {
        Edge.refused("3: no letters, and twelve", Halls::twelveStitches, Lacehall::stitch, Edge.UNSUPPORTED);
        for (int stitch : NO_STITCHES) {
            for (int place : NO_PLACES) {
                Edge.refused("5: no stitch, no place", hall -> Halls.stitches(hall, "c"),
                        hall -> hall.goesTo(stitch, place), Edge.OUT);
            }
        }
        Edge.refused("5: no stitch at all, no place", hall -> { }, hall -> hall.goesTo(0, 4), Edge.OUT);
    }

    private static void pairs() {
        Edge.refused("7: a pair, and twenty threads", Halls::hangAll, hall -> hall.hang(9), Edge.UNSUPPORTED);
        for (int column : NO_COLUMNS) {
            Edge.refused("7: no column, and twenty threads", Halls::hangAll, hall -> hall.hang(column),
                    Edge.OUT);
            Edge.refused("8: no column, and no pair", hall -> { }, hall -> hall.end(column), Edge.OUT);
        }
    }

    private static void threads() {
        Edge.Steps two = hall -> Halls.hang(hall, 0, 1);
        for (int thread : NO_THREADS) {
            for (int wrong : new int[] {Integer.MIN_VALUE, -1, 1000, Integer.MAX_VALUE}) {
                Edge.refused("10: no thread, no colour", two, hall -> hall.setColour(thread, wrong), Edge.OUT);
                Edge.refused("11: no thread, no length", two, hall -> hall.wind(thread, wrong), Edge.OUT);
            }
            Edge.refused("10: no thread, no colour", two, hall -> hall.setColour(thread, 10), Edge.OUT);
            Edge.refused("11: no thread, no length", two, hall -> hall.wind(thread, 0), Edge.OUT);
            Edge.refused("14: no thread, not ended", two, hall -> hall.endOf(thread, true), Edge.OUT);
            Edge.refused("15: no thread, the same", two, hall -> hall.over(thread, thread), Edge.OUT);
        }
    }

    private static void pinColumnsAndStitches() {
        for (int column : NO_PIN_COLUMNS) {
            for (int row : NO_ROWS) {
                Edge.refused("16: no column, no row", FULL, hall -> hall.pin(column, row, 0), Edge.OUT);
            }
            Edge.refused("16: no column, and twelve", FULL, hall -> hall.pin(column, 50, 0), Edge.OUT);
        }
        // The column 9 would touch a pin at 8, and the column -1 one at 0.
        Edge.refused("16: no column, the same row", hall -> atBothSides(hall), hall -> hall.pin(9, 50, 0),
                Edge.OUT);
        Edge.refused("16: no column, the same row", hall -> atBothSides(hall), hall -> hall.pin(-1, 50, 0),
                Edge.OUT);
        for (int stitch : NO_STITCHES) {
            for (int row : NO_ROWS) {
                Edge.refused("16: no stitch, no row", FULL, hall -> hall.pin(4, row, stitch), Edge.OUT);
            }
            Edge.refused("16: no stitch, the same row", FULL, hall -> hall.pin(4, 15, stitch), Edge.OUT);
            Edge.refused("16: no stitch, a greater row is worked", FULL,
                    hall -> hall.pin(4, 9, stitch), Edge.OUT);
            Edge.refused("16: no stitch, and twelve", FULL, hall -> hall.pin(0, 50, stitch), Edge.OUT);
        }
    }

    private static void atBothSides(Lacehall hall) {
        Halls.stitches(hall, "c");
        hall.pin(0, 50, 0);
        hall.pin(8, 50, 0);
    }

    private static void pinRows() {
        for (int row : NO_ROWS) {
            Edge.refused("16: no row, and twelve", FULL, hall -> hall.pin(0, row, 0), Edge.ARGUMENT);
        }
        for (int row : new int[] {Integer.MIN_VALUE, -1}) {
            Edge.Steps two = hall -> {
                Halls.stitches(hall, "c");
                Halls.hang(hall, 4, 5);
                hall.pin(4, 0, 0);
                hall.work(0);
            };
            Edge.refused("16: no row, a greater one is worked", two, hall -> hall.pin(4, row, 0),
                    Edge.ARGUMENT);
            Edge.refused("16: no row, a greater one is worked, and twelve", FULL,
                    hall -> hall.pin(4, row, 0), Edge.ARGUMENT);
        }
    }

    private static void pinsInTheWay() {
        for (int i = 3; i <= 5; i++) {
            int column = i;
            Edge.refused("16: the same row, and twelve", FULL,
                    hall -> hall.pin(column, 21, 0), Edge.UNSUPPORTED);
            Edge.refused("16: a greater row is worked, and twelve", FULL,
                    hall -> hall.pin(column, 9, 0), Edge.UNSUPPORTED);
        }
        Edge.refused("16: twelve alone", FULL, hall -> hall.pin(6, 9, 0), Edge.STATE);
    }

    private static void sewings() {
        for (int column : NO_COLUMNS) {
            Edge.refused("21: no column, the pin is not worked", FULL, hall -> hall.sew(column, 1), Edge.OUT);
            Edge.refused("21: no column, too far apart", FULL, hall -> hall.sew(column, 0), Edge.OUT);
        }
        for (int pin : NO_PINS) {
            Edge.refused("21: no pin, the column has no pair", FULL, hall -> hall.sew(3, pin), Edge.OUT);
            for (int column : NO_COLUMNS) {
                Edge.refused("21: no pin, no column", FULL, hall -> hall.sew(column, pin), Edge.OUT);
            }
        }
    }

    /** What is not there is not worked either, and cannot be. */
    private static void worked() {
        for (int pin : NO_PINS) {
            Edge.refused("18: no pin, so it cannot be worked", FULL, hall -> hall.work(pin), Edge.OUT);
            Edge.refused("20: no pin, so it is not worked", FULL, hall -> hall.undo(pin), Edge.OUT);
        }
        Edge.refused("20: not worked, and it could not be undone", hall -> {
            FULL.on(hall);
            hall.end(4);
        }, hall -> hall.undo(1), Edge.UNSUPPORTED);
    }

    private static void colours() {
        for (int place : NO_PLACES) {
            for (int pin : NO_PINS) {
                Edge.refused("24: no pin, no place", FULL, hall -> hall.colourAt(pin, place), Edge.OUT);
            }
            Edge.refused("24: no place, not worked", FULL, hall -> hall.colourAt(1, place), Edge.ARGUMENT);
        }
        for (int pin : NO_PINS) {
            Edge.refused("24: no pin, so it is not worked", FULL, hall -> hall.colourAt(pin, 0), Edge.OUT);
        }
    }

    private static void grounds() {
        for (int pairs : new int[] {Integer.MIN_VALUE, -1, 0, 1, 5, Integer.MAX_VALUE}) {
            for (int stitch : NO_STITCHES) {
                Edge.refused("25: no such pairs, no stitch", FULL,
                        hall -> hall.closesBehind(pairs, stitch, 0), Edge.ARGUMENT);
                Edge.refused("25: no such pairs, no other", FULL,
                        hall -> hall.closesBehind(pairs, 0, stitch), Edge.ARGUMENT);
            }
        }
    }
}
