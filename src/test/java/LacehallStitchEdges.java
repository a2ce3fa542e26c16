/** The edges of letters, stitches and grounds: promises 1 to 6 and 25. */
public final class LacehallStitchEdges {
    private static final int MIN = Integer.MIN_VALUE;
    private static final int MAX = Integer.MAX_VALUE;

    public static void main(String[] arguments) {
        newObject();
        lettersThatThereAre();
        eightLetters();
        oneLetter();
        twelveStitches();
        stitchNumbers();
        places();
        leastAndMostCrossings();
        alikeByOneMove();
        groundPairs();
        groundStitches();
        groundRows();
        Check.finish("LacehallStitchEdges");
    }

    private static void newObject() {
        Edge.Steps nothing = hall -> { };
        Edge.allowed("1: the buffer is empty", nothing, hall -> hall.letter('t'), 1);
        Edge.allowed("1: without pairs", nothing, hall -> hall.threadIn(0, false), -1);
        Edge.allowed("1: without pairs", nothing, hall -> hall.threadIn(9, true), -1);
        Edge.refused("1: without stitches", nothing, hall -> hall.crossings(0), Edge.OUT);
        Edge.refused("1: without threads", nothing, hall -> hall.used(0), Edge.OUT);
        Edge.refused("1: without pins", nothing, hall -> hall.isWorked(0), Edge.OUT);
        Edge.refused("1: nothing to end", nothing, hall -> hall.end(0), Edge.UNSUPPORTED);
        Edge.refused("1: no share", nothing, Lacehall::workedShare, Edge.ARITHMETIC);
        Edge.refused("1: no mean", nothing, Lacehall::meanUsed, Edge.ARITHMETIC);
        Edge.looks("1: one order", nothing, Lacehall::orders, 1L);
        Edge.looks("1: no crossings", nothing, Lacehall::allCrossings, 0L);
        Edge.looks("1: no minutes", nothing, hall -> hall.minutes(1), 0);
        Edge.looks("1: no minutes", nothing, hall -> hall.minutes(4), 0);
        Edge.looks("1: sound", nothing, Lacehall::isSound, true);
    }

    /** Of all characters four are letters. */
    private static void lettersThatThereAre() {
        for (int i = 0; i <= Character.MAX_VALUE; i++) {
            char letter = (char) i;
            Lacehall hall = new Lacehall();
            boolean isLetter = letter == 'c' || letter == 'l' || letter == 'r' || letter == 't';
            Check.is("2: letter " + i, Check.outcome(() -> hall.letter(letter)),
                    isLetter ? "1" : Edge.ARGUMENT);
        }
        Edge.Steps two = hall -> Halls.letters(hall, "ct");
        for (char beside : "bdkmqsuCLRT".toCharArray()) {
            Edge.refused("2: letter " + beside, two, hall -> hall.letter(beside), Edge.ARGUMENT);
        }
        Edge.refused("2: letter 0", two, hall -> hall.letter((char) 0), Edge.ARGUMENT);
        Edge.refused("2: the last character", two, hall -> hall.letter(Character.MAX_VALUE), Edge.ARGUMENT);
        // As a byte this one would be a 'c'.
        Edge.refused("2: letter 256 + c", two, hall -> hall.letter((char) (256 + 'c')), Edge.ARGUMENT);
    }

    private static void eightLetters() {
        Edge.Steps seven = hall -> Halls.letters(hall, "clrtclr");
        Edge.Steps eight = hall -> Halls.letters(hall, "clrtclrt");
        for (char letter : "clrt".toCharArray()) {
            Edge.allowed("2: the eighth letter", seven, hall -> hall.letter(letter), 8);
            Edge.refused("2: a ninth letter", eight, hall -> hall.letter(letter), Edge.STATE);
        }
        Edge.allowed("3: eight letters", eight, Lacehall::stitch, 0);
        Edge.Steps made = hall -> Halls.stitches(hall, "clrtclrt");
        Edge.allowed("2: the first letter again", made, hall -> hall.letter('c'), 1);
        Edge.looks("4: of eight letters", made, hall -> hall.crossings(0), 10);
    }

    private static void oneLetter() {
        Edge.refused("3: no letter", hall -> { }, Lacehall::stitch, Edge.UNSUPPORTED);
        Edge.allowed("3: one letter", hall -> hall.letter('r'), Lacehall::stitch, 0);
        Edge.refused("3: no letter behind a stitch", hall -> Halls.stitches(hall, "r"), Lacehall::stitch,
                Edge.UNSUPPORTED);
        Edge.refused("3: a refused letter alone", hall -> Check.outcome(() -> hall.letter('x')),
                Lacehall::stitch, Edge.UNSUPPORTED);
    }

    private static void twelveStitches() {
        Edge.Steps eleven = hall -> {
            Halls.stitches(hall, "c", "l", "r", "t", "cc", "cl", "cr", "ct", "lc", "ll", "lr");
            Halls.letters(hall, "tc");
        };
        Edge.Steps twelve = hall -> {
            Halls.twelveStitches(hall);
            Halls.letters(hall, "tc");
        };
        Edge.allowed("3: the twelfth", eleven, Lacehall::stitch, 11);
        Edge.refused("3: a thirteenth", twelve, Lacehall::stitch, Edge.STATE);
        Edge.allowed("3: the buffer stands then", hall -> {
            twelve.on(hall);
            Check.outcome(hall::stitch);
        }, hall -> hall.letter('c'), 3);
        Edge.allowed("3: letters behind the twelfth", Halls::twelveStitches, hall -> hall.letter('c'), 1);
    }

    private static void stitchNumbers() {
        Edge.Steps two = hall -> Halls.stitches(hall, "ctc", "clrc");
        Edge.looks("4: the first", two, hall -> hall.crossings(0), 4);
        Edge.looks("4: the last", two, hall -> hall.crossings(1), 4);
        Edge.looks("5: the last", two, hall -> hall.goesTo(1, 0), 2);
        Edge.looks("6: the last and the first", two, hall -> hall.areAlike(1, 0), true);
        for (int stitch : new int[] {MIN, -1, 2, 11, 12, MAX}) {
            Edge.refused("4: stitch " + stitch, two, hall -> hall.crossings(stitch), Edge.OUT);
            Edge.refused("5: stitch " + stitch, two, hall -> hall.goesTo(stitch, 0), Edge.OUT);
            Edge.refused("6: stitch " + stitch, two, hall -> hall.areAlike(stitch, 0), Edge.OUT);
            Edge.refused("6: other " + stitch, two, hall -> hall.areAlike(0, stitch), Edge.OUT);
            Edge.refused("6: both " + stitch, two, hall -> hall.areAlike(stitch, stitch), Edge.OUT);
            Edge.refused("16: stitch " + stitch, two, hall -> hall.pin(0, 0, stitch), Edge.OUT);
            Edge.refused("25: stitch " + stitch, two, hall -> hall.closesBehind(2, stitch, 0), Edge.OUT);
            Edge.refused("25: other " + stitch, two, hall -> hall.closesBehind(3, 0, stitch), Edge.OUT);
        }
        Edge.looks("4: the twelfth", Halls::twelveStitches, hall -> hall.crossings(11), 1);
        Edge.looks("5: the twelfth", Halls::twelveStitches, hall -> hall.goesTo(11, 2), 1);
        Edge.looks("6: the twelfth", Halls::twelveStitches, hall -> hall.areAlike(11, 0), true);
        Edge.allowed("16: the twelfth", Halls::twelveStitches, hall -> hall.pin(0, 0, 11), 0);
        Edge.looks("25: the twelfth", Halls::twelveStitches, hall -> hall.closesBehind(2, 11, 11), 4);
        Edge.refused("4: a thirteenth", Halls::twelveStitches, hall -> hall.crossings(12), Edge.OUT);
        Edge.refused("4: the buffer is no stitch", hall -> hall.letter('c'), hall -> hall.crossings(0),
                Edge.OUT);
    }

    private static void places() {
        Edge.Steps one = hall -> Halls.stitches(hall, "ct");
        int[] due = {1, 3, 0, 2};
        for (int i = 0; i < 4; i++) {
            int place = i;
            Edge.looks("5: place " + i, one, hall -> hall.goesTo(0, place), due[i]);
        }
        for (int place : new int[] {MIN, -1, 4, MAX}) {
            Edge.refused("5: place " + place, one, hall -> hall.goesTo(0, place), Edge.ARGUMENT);
        }
    }

    private static void leastAndMostCrossings() {
        Edge.Steps least = hall -> Halls.stitches(hall, "c", "l", "r", "t");
        int[] due = {1, 1, 1, 2};
        for (int i = 0; i < 4; i++) {
            int stitch = i;
            Edge.looks("4: one letter", least, hall -> hall.crossings(stitch), due[i]);
        }
        Edge.Steps most = hall -> Halls.stitches(hall, "tttttttt", "cccccccc");
        Edge.looks("4: the most", most, hall -> hall.crossings(0), 16);
        Edge.looks("4: eight letters", most, hall -> hall.crossings(1), 8);
        Edge.looks("5: eight twists lead back", most, hall -> hall.goesTo(0, 3), 3);
    }

    private static void alike(String one, String two, boolean due) {
        Edge.Steps both = hall -> Halls.stitches(hall, one, two);
        Edge.looks("6: " + one + " and " + two, both, hall -> hall.areAlike(0, 1), due);
        Edge.looks("6: " + two + " and " + one, both, hall -> hall.areAlike(1, 0), due);
        Edge.looks("6: " + one + " and the same", both, hall -> hall.areAlike(0, 0), true);
    }

    /** No two letters undo each other, as no thread goes over the same one from both sides. */
    private static void alikeByOneMove() {
        alike("c", "c", true);
        alike("t", "lr", true);
        alike("lr", "rl", true);
        alike("l", "r", false);
        alike("cl", "lc", false);
        alike("cr", "rc", false);
        alike("clc", "lcl", false);
        alike("crc", "rcr", false);
        alike("cccccccc", "ccccccc", false);
        alike("tttttttt", "ttttttt", false);
        alike("tttttttc", "ttttttlc", false);
        alike("ttttlrlr", "rlrltttt", true);
        // The same places behind it, the same crossings of each two threads, and yet another braid.
        alike("ccll", "llcc", false);
        alike("ccrr", "rrcc", false);
        alike("ccllccrr", "ccrrccll", false);
    }

    private static void groundPairs() {
        Edge.Steps two = hall -> Halls.stitches(hall, "c", "l");
        Edge.looks("25: two pairs", two, hall -> hall.closesBehind(2, 0, 1), 4);
        Edge.looks("25: three pairs", two, hall -> hall.closesBehind(3, 0, 1), 6);
        Edge.looks("25: four pairs", two, hall -> hall.closesBehind(4, 0, 1), 12);
        for (int pairs : new int[] {MIN, -1, 0, 1, 5, 6, MAX}) {
            Edge.refused("25: pairs " + pairs, two, hall -> hall.closesBehind(pairs, 0, 1), Edge.ARGUMENT);
        }
    }

    /** With two pairs no even row is worked; the stitches can be one. */
    private static void groundStitches() {
        Edge.Steps three = hall -> Halls.stitches(hall, "cc", "ct", "lcr");
        for (int i = 0; i < 3; i++) {
            int other = i;
            Edge.looks("25: two pairs, other " + i, three, hall -> hall.closesBehind(2, 0, other), 2);
            Edge.looks("25: two pairs, other " + i, three, hall -> hall.closesBehind(2, 1, other), 8);
        }
        Edge.looks("25: the even rows alone", three, hall -> hall.closesBehind(3, 0, 1), 8);
        Edge.looks("25: the same stitch", three, hall -> hall.closesBehind(4, 1, 1), rows("ct", "ct", 4));
    }

    /** Row by row from the document's words, on a row of threads. */
    private static int rows(String odd, String even, int pairs) {
        StringBuilder first = new StringBuilder("01234567").delete(2 * pairs, 8);
        StringBuilder now = new StringBuilder(first);
        for (int row = 1; ; row++) {
            for (int pair = (row + 1) % 2; pair + 1 < pairs; pair += 2) {
                for (char letter : (row % 2 == 1 ? odd : even).toCharArray()) {
                    if (letter == 'c') {
                        change(now, 2 * pair + 1);
                    }
                    if (letter == 'l' || letter == 't') {
                        change(now, 2 * pair);
                    }
                    if (letter == 'r' || letter == 't') {
                        change(now, 2 * pair + 2);
                    }
                }
            }
            if (row % 2 == 0 && first.compareTo(now) == 0) {
                return row;
            }
        }
    }

    private static void change(StringBuilder now, int place) {
        char held = now.charAt(place);
        now.setCharAt(place, now.charAt(place + 1));
        now.setCharAt(place + 1, held);
    }

    /** The least number of rows is 2, not 0; the greatest ones are those of the longest ways round. */
    private static void groundRows() {
        String[][] due = {{"2", "cc", "c", "2"}, {"2", "ct", "c", "8"}, {"3", "r", "l", "2"},
            {"3", "c", "t", "12"}, {"4", "cc", "ll", "2"}, {"4", "cl", "cl", "14"}, {"4", "ct", "lc", "30"},
            {"4", "tttttttt", "cccccccc", "2"}};
        for (String[] ground : due) {
            int pairs = Integer.parseInt(ground[0]);
            int rows = Integer.parseInt(ground[3]);
            Edge.Steps two = hall -> Halls.stitches(hall, ground[1], ground[2]);
            String what = "25: " + String.join(" ", ground);
            Check.is(what + " by rows", rows(ground[1], ground[2], pairs), rows);
            Edge.looks(what, two, hall -> hall.closesBehind(pairs, 0, 1), rows);
        }
    }
}
