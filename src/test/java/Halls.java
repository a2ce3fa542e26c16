/** Halls that several tests begin with. */
final class Halls {
    private Halls() {
    }

    static void letters(Lacehall hall, String word) {
        for (char letter : word.toCharArray()) {
            hall.letter(letter);
        }
    }

    static void stitches(Lacehall hall, String... words) {
        for (String word : words) {
            letters(hall, word);
            hall.stitch();
        }
    }

    static void twelveStitches(Lacehall hall) {
        for (int i = 0; i < 12; i++) {
            stitches(hall, "c");
        }
    }

    static void hang(Lacehall hall, int... columns) {
        for (int column : columns) {
            hall.hang(column);
        }
    }

    static void hangAll(Lacehall hall) {
        hang(hall, 0, 1, 2, 3, 4, 5, 6, 7, 8, 9);
    }

    static void work(Lacehall hall, int... pins) {
        for (int pin : pins) {
            hall.work(pin);
        }
    }

    static void sew(Lacehall hall, int times, int column, int pin) {
        for (int i = 0; i < times; i++) {
            hall.sew(column, pin);
        }
    }

    /** Twelve pins in a column, one behind the other, of a stitch that is there. */
    static void twelvePins(Lacehall hall) {
        for (int i = 0; i < 12; i++) {
            hall.pin(4, 10 + i, 0);
        }
    }

    static void fullPatternWithoutPairs(Lacehall hall) {
        stitches(hall, "c");
        twelvePins(hall);
    }

    /** Twelve pins of one letter; the pairs are hung and the first pin is worked. */
    static void fullPattern(Lacehall hall) {
        stitches(hall, "c");
        hang(hall, 4, 5);
        twelvePins(hall);
        hall.work(0);
    }
}
