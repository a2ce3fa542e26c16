import java.util.ArrayList;
import java.util.List;

/**
 * A call at an edge of what is allowed. As an object is used for at most 512 calls, the hall is made anew
 * for each part of what is looked at behind the call.
 */
final class Edge {
    static final String OUT = "throws IndexOutOfBoundsException";
    static final String ARGUMENT = "throws IllegalArgumentException";
    static final String STATE = "throws IllegalStateException";
    static final String UNSUPPORTED = "throws UnsupportedOperationException";
    static final String NO_ELEMENT = "throws NoSuchElementException";
    static final String ARITHMETIC = "throws ArithmeticException";

    private static final int THREADS = 20;
    private static final int COLUMNS = 10;
    private static final int PINS = 12;
    private static final int STITCHES = 12;

    private Edge() {
    }

    /** Calls that make a hall what a test needs. */
    interface Steps {
        void on(Lacehall hall);
    }

    /** The call that is looked at. */
    interface Act {
        Object on(Lacehall hall);
    }

    private interface Part {
        void tell(Lacehall hall, List<String> told);
    }

    static Lacehall made(Steps steps) {
        Lacehall hall = new Lacehall();
        steps.on(hall);
        return hall;
    }

    static void allowed(String what, Steps steps, Act act, Object due) {
        Lacehall hall = made(steps);
        Check.is(what, Check.outcome(() -> act.on(hall)), String.valueOf(due));
    }

    /** The call throws what is due, and nothing that can be seen of the hall is another one then. */
    static void refused(String what, Steps steps, Act act, String due) {
        Lacehall hall = made(steps);
        Check.is(what, Check.outcome(() -> act.on(hall)), due);
        Steps andAct = again -> {
            steps.on(again);
            Check.outcome(() -> act.on(again));
        };
        Check.is(what + ": it changed nothing", told(andAct), told(steps));
    }

    /** A call that only looks answers what is due, and changes nothing. */
    static void looks(String what, Steps steps, Act act, Object due) {
        refused(what, steps, act, String.valueOf(due));
    }

    /** All that can be seen of a hall: each part on a hall of its own. */
    static List<String> told(Steps steps) {
        List<String> told = toldButWear(steps);
        told.addAll(toldOf(steps, Edge::tellWear));
        return told;
    }

    /** All that can be seen but how worn the threads are, which is all that an undone pin leaves. */
    static List<String> toldButWear(Steps steps) {
        List<String> told = new ArrayList<>();
        told.addAll(toldOf(steps, Edge::tellStitches));
        told.addAll(toldOf(steps, Edge::tellAlike));
        told.addAll(toldOf(steps, Edge::tellPillow));
        told.addAll(toldOf(steps, Edge::tellPins));
        told.addAll(toldOf(steps, Edge::tellNextNumbers));
        for (int i = 0; i < THREADS; i += 5) {
            int first = i;
            told.addAll(toldOf(steps, (hall, row) -> tellOver(hall, first, row)));
        }
        for (int i = 0; i < PINS; i++) {
            int pin = i;
            told.addAll(toldOf(steps, (hall, row) -> tellUndo(hall, pin, row)));
            told.addAll(toldOf(steps, (hall, row) -> tellSewings(hall, pin, row)));
        }
        return told;
    }

    private static List<String> toldOf(Steps steps, Part part) {
        List<String> told = new ArrayList<>();
        part.tell(made(steps), told);
        return told;
    }

    private static void add(List<String> told, String name, Check.Call call) {
        told.add(name + " " + Check.outcome(call));
    }

    private static void tellStitches(Lacehall hall, List<String> told) {
        for (int i = 0; i < STITCHES; i++) {
            int stitch = i;
            add(told, "crossings " + stitch, () -> hall.crossings(stitch));
            for (int j = 0; j < 4; j++) {
                int place = j;
                add(told, "goesTo " + stitch, () -> hall.goesTo(stitch, place));
            }
        }
        // The buffer is seen in the stitch that it becomes, and in the letter that it has no room for.
        add(told, "stitch", hall::stitch);
        for (int i = 0; i < 9; i++) {
            add(told, "letter", () -> hall.letter('c'));
        }
        for (int i = 0; i < STITCHES; i++) {
            int stitch = i;
            add(told, "crossings " + stitch, () -> hall.crossings(stitch));
            add(told, "goesTo " + stitch, () -> hall.goesTo(stitch, 0));
        }
    }

    private static void tellAlike(Lacehall hall, List<String> told) {
        for (int i = 0; i < 9; i++) {
            add(told, "letter", () -> hall.letter('t'));
        }
        for (int i = 0; i < STITCHES; i++) {
            for (int j = 0; j <= i; j++) {
                int stitch = i;
                int other = j;
                add(told, "areAlike " + stitch, () -> hall.areAlike(stitch, other));
            }
        }
    }

    private static void tellPillow(Lacehall hall, List<String> told) {
        for (int i = 0; i < THREADS; i++) {
            int thread = i;
            add(told, "threadIn " + i, () -> hall.threadIn(thread / 2, thread % 2 == 1));
            add(told, "used " + i, () -> hall.used(thread));
            add(told, "began " + i, () -> hall.endOf(thread, false));
            add(told, "ended " + i, () -> hall.endOf(thread, true));
            add(told, "colour " + i, () -> hall.setColour(thread, 0));
            add(told, "wound " + i, () -> hall.wind(thread, 1));
        }
        add(told, "meanUsed", hall::meanUsed);
    }

    private static void tellWear(Lacehall hall, List<String> told) {
        for (int i = 0; i < THREADS; i++) {
            int thread = i;
            add(told, "worn " + i, () -> hall.worn(thread));
        }
    }

    private static void tellOver(Lacehall hall, int first, List<String> told) {
        for (int i = first; i < first + 5; i++) {
            for (int j = 0; j < THREADS; j++) {
                int thread = i;
                int other = j;
                add(told, "over " + i + " " + j, () -> hall.over(thread, other));
            }
        }
    }

    private static void tellPins(Lacehall hall, List<String> told) {
        for (int i = 0; i < PINS; i++) {
            int pin = i;
            add(told, "canWork " + i, () -> hall.canWork(pin));
            add(told, "isWorked " + i, () -> hall.isWorked(pin));
            add(told, "orderAt " + i, () -> hall.orderAt(pin));
            for (int j = 0; j < 4; j++) {
                int place = j;
                add(told, "colourAt " + i, () -> hall.colourAt(pin, place));
            }
        }
        for (int i = 1; i <= 4; i++) {
            int workers = i;
            add(told, "minutes " + i, () -> hall.minutes(workers));
        }
        add(told, "orders", hall::orders);
        add(told, "allCrossings", hall::allCrossings);
        add(told, "workedShare", hall::workedShare);
        add(told, "isSound", hall::isSound);
    }

    private static void tellNextNumbers(Lacehall hall, List<String> told) {
        for (int i = 0; i < COLUMNS; i++) {
            int column = i;
            add(told, "hang " + i, () -> hall.hang(column));
        }
        for (int i = 0; i < COLUMNS - 1; i++) {
            int column = i;
            add(told, "pin " + i, () -> hall.pin(column, 98, 0));
            add(told, "pin " + i, () -> hall.pin(column, 0, 0));
        }
        for (int i = 0; i < COLUMNS; i++) {
            int column = i;
            add(told, "end " + i, () -> hall.end(column));
        }
        add(told, "isSound", hall::isSound);
    }

    private static void tellUndo(Lacehall hall, int pin, List<String> told) {
        add(told, "undo " + pin, () -> hall.undo(pin));
        for (int i = 0; i < PINS; i++) {
            int other = i;
            add(told, "isWorked " + i, () -> hall.isWorked(other));
        }
        for (int i = 0; i < THREADS; i++) {
            int thread = i;
            add(told, "threadIn " + i, () -> hall.threadIn(thread / 2, thread % 2 == 1));
            add(told, "used " + i, () -> hall.used(thread));
        }
        add(told, "isSound", hall::isSound);
    }

    private static void tellSewings(Lacehall hall, int pin, List<String> told) {
        for (int i = 0; i < COLUMNS; i++) {
            int column = i;
            add(told, "sew " + i, () -> hall.sew(column, pin));
        }
    }
}
