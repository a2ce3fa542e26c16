import java.util.ArrayList;
import java.util.Arrays;
import java.util.HashSet;
import java.util.List;
import java.util.Map;
import java.util.Random;
import java.util.Set;
import java.util.TreeMap;

/**
 * Runs of 512 calls, most of which can be done, so that they come deep into the lace: pairs are hung, ended
 * and hung again in a column, pins are worked, sewn to, undone and worked again, lengths run out and are wound
 * again, and all limits are reached. Each answer is held against that of the naive hall. Seeds are fixed.
 */
public final class LacehallWholeRuns {
    private static final int CALLS = 512;
    private static final int RUNS = 400;

    /**
     * How often, of a hundred changes: letter, stitch, hang, end, wind, setColour, pin, work, sew, undo. In its
     * middle a run goes on with the next row, so that threads that sewings used up are wound and worked.
     */
    private static final int[][] HABITS = {
        {5, 5, 5, 2, 5, 5, 13, 30, 15, 15},
        {2, 2, 2, 0, 0, 3, 6, 55, 0, 30},
        {2, 2, 22, 20, 2, 2, 10, 25, 10, 5},
        {3, 1, 0, 0, 0, 0, 3, 0, 93, 0},
        {2, 2, 4, 2, 25, 5, 20, 30, 5, 5},
        {30, 10, 5, 5, 5, 10, 10, 10, 5, 10},
    };

    /** What the runs must have met at least once, by its name. */
    private static final Map<String, Integer> MET = new TreeMap<>();
    private static final String[] MUST = {"a letter too many", "a stitch too many", "a pair too many",
        "a pin too many", "hung again", "worked with a pair hung again", "undone with a pair hung again",
        "worked again", "sewn to a pin worked again", "worked behind winding", "twelve pins worked",
        "six pins undone", "refused to undo", "a thread too short to sew"};

    private final Random random;
    private final int seed;
    private final int columns;
    private final Lacehall hall = new Lacehall();
    private final NaiveHall naive = new NaiveHall();
    private final int[] pinColumns = new int[12];
    private final Set<Integer> endedIn = new HashSet<>();
    private final Set<Integer> hungAgain = new HashSet<>();
    private final Set<Integer> undone = new HashSet<>();
    private final Set<Integer> workedAgain = new HashSet<>();
    private final Set<Integer> freedByWinding = new HashSet<>();
    private int stitches = 0;
    private int threads = 0;
    private int pins = 0;
    private int calls = 0;

    private LacehallWholeRuns(int seed) {
        this.seed = seed;
        random = new Random(1000 + seed);
        columns = new int[] {2, 3, 4, 6, 10}[seed / HABITS.length % 5];
    }

    public static void main(String[] arguments) {
        for (int seed = 0; seed < RUNS; seed++) {
            new LacehallWholeRuns(seed).run();
        }
        for (String name : MUST) {
            Check.is("some run met: " + name, MET.getOrDefault(name, 0) > 0, true);
        }
        Check.finish("LacehallWholeRuns");
    }

    private static void meet(String name) {
        MET.merge(name, 1, Integer::sum);
    }

    private void run() {
        for (int i = 0; i < 2; i++) {
            word(1 + random.nextInt(4));
        }
        for (int column = 0; column < columns; column++) {
            hang(column);
        }
        for (int i = 0; i < 3; i++) {
            pin();
            work();
        }
        while (calls < CALLS - 100) {
            change();
            for (int i = random.nextInt(3); i > 0; i--) {
                look(random.nextInt(21));
            }
        }
        lookAtAll();
        while (calls < CALLS) {
            look(6);
        }
    }

    private String due(String call, Check.Call got, String want) {
        if (calls < CALLS) {
            calls++;
            Check.is("seed " + seed + ", call " + calls + ": " + call, Check.outcome(got), want);
        }
        return want;
    }

    private static boolean isThrown(String answer) {
        return answer.startsWith("throws");
    }

    private void word(int length) {
        for (int i = 0; i < length; i++) {
            letter();
        }
        stitch();
    }

    private void change() {
        int[] habit = HABITS[(calls < CALLS / 2 ? seed : seed + 1) % HABITS.length];
        int dice = random.nextInt(Arrays.stream(habit).sum());
        int kind = 0;
        while (dice >= habit[kind]) {
            dice -= habit[kind];
            kind++;
        }
        switch (kind) {
            case 0 -> letter();
            case 1 -> stitch();
            case 2 -> hang(random.nextInt(columns));
            case 3 -> end(random.nextInt(columns));
            case 4 -> wind();
            case 5 -> setColour();
            case 6 -> pin();
            case 7 -> work();
            case 8 -> sew();
            default -> undo();
        }
    }

    private void letter() {
        char letter = "clrt".charAt(random.nextInt(4));
        if (isThrown(due("letter(" + letter + ")", () -> hall.letter(letter), naive.letter(letter)))) {
            meet("a letter too many");
        }
    }

    private void stitch() {
        String answer = due("stitch()", hall::stitch, naive.stitch());
        if (answer.equals("throws IllegalStateException")) {
            meet("a stitch too many");
        }
        stitches += isThrown(answer) ? 0 : 1;
    }

    private void hang(int column) {
        String answer = due("hang(" + column + ")", () -> hall.hang(column), naive.hang(column));
        if (answer.equals("throws IllegalStateException")) {
            meet("a pair too many");
        }
        if (!isThrown(answer)) {
            threads += 2;
            if (endedIn.contains(column)) {
                hungAgain.add(column);
                meet("hung again");
            }
        }
    }

    private void end(int column) {
        String answer = due("end(" + column + ")", () -> hall.end(column), naive.end(column));
        if (!isThrown(answer)) {
            endedIn.add(column);
            hungAgain.remove(column);
        }
    }

    /** Winds both threads of a column, as a pin needs enough of each. */
    private void wind() {
        int column = random.nextInt(columns);
        int length = random.nextInt(10) == 0 ? 999 : 1 + random.nextInt(9);
        Set<Integer> before = workablePins();
        for (boolean isRight : new boolean[] {false, true}) {
            int thread = Integer.parseInt(naive.threadIn(column, isRight));
            due("wind(" + thread + ", " + length + ")", () -> hall.wind(thread, length),
                    naive.wind(thread, length));
        }
        Set<Integer> freed = workablePins();
        freed.removeAll(before);
        freedByWinding.addAll(freed);
    }

    private Set<Integer> workablePins() {
        Set<Integer> found = new HashSet<>();
        for (int pin = 0; pin < pins; pin++) {
            if (naive.canWork(pin).equals("true")) {
                found.add(pin);
            }
        }
        return found;
    }

    private void setColour() {
        int thread = random.nextInt(threads + 1);
        int colour = random.nextInt(11);
        due("setColour(" + thread + ", " + colour + ")", () -> hall.setColour(thread, colour),
                naive.setColour(thread, colour));
    }

    private void pin() {
        int column = random.nextInt(columns - 1);
        int row = random.nextInt(100);
        int stitch = random.nextInt(stitches);
        String answer = due("pin(" + column + ", " + row + ", " + stitch + ")",
                () -> hall.pin(column, row, stitch), naive.pin(column, row, stitch));
        if (answer.equals("throws IllegalStateException")) {
            meet("a pin too many");
        }
        if (!isThrown(answer)) {
            pinColumns[pins] = column;
            pins++;
        }
    }

    private void work() {
        List<Integer> workable = new ArrayList<>(workablePins());
        boolean isAny = workable.isEmpty() || random.nextInt(10) == 0;
        int pin = isAny ? random.nextInt(pins + 1) : workable.get(random.nextInt(workable.size()));
        String answer = due("work(" + pin + ")", () -> hall.work(pin), naive.work(pin));
        if (isThrown(answer)) {
            return;
        }
        if (answer.equals("12")) {
            meet("twelve pins worked");
        }
        if (undone.contains(pin)) {
            workedAgain.add(pin);
            meet("worked again");
        }
        if (freedByWinding.contains(pin)) {
            meet("worked behind winding");
        }
        if (isAtPairHungAgain(pin)) {
            meet("worked with a pair hung again");
        }
    }

    private boolean isAtPairHungAgain(int pin) {
        return hungAgain.contains(pinColumns[pin]) || hungAgain.contains(pinColumns[pin] + 1);
    }

    private int workedPin() {
        List<Integer> worked = new ArrayList<>();
        for (int pin = 0; pin < pins; pin++) {
            if (naive.isWorked(pin).equals("true")) {
                worked.add(pin);
            }
        }
        boolean isAny = worked.isEmpty() || random.nextInt(20) == 0;
        return isAny ? random.nextInt(pins + 1) : worked.get(random.nextInt(worked.size()));
    }

    private void sew() {
        int pin = workedPin();
        int column = pin < pins ? Math.max(0, pinColumns[pin] - 2 + random.nextInt(6)) : 0;
        String answer = due("sew(" + column + ", " + pin + ")", () -> hall.sew(column, pin),
                naive.sew(column, pin));
        if (!isThrown(answer) && workedAgain.contains(pin)) {
            meet("sewn to a pin worked again");
        }
        int apart = pin < pins ? column - pinColumns[pin] : -2;
        boolean isNear = apart >= -1 && apart <= 2 && naive.isWorked(pin).equals("true");
        if (isNear && isThrown(answer) && !naive.threadIn(column, false).matches("-1|throws.*")) {
            meet("a thread too short to sew");
        }
    }

    private void undo() {
        int pin = workedPin();
        Set<Integer> before = workedPins();
        String answer = due("undo(" + pin + ")", () -> hall.undo(pin), naive.undo(pin));
        if (isThrown(answer)) {
            if (before.contains(pin)) {
                meet("refused to undo");
            }
            return;
        }
        before.removeAll(workedPins());
        undone.addAll(before);
        workedAgain.removeAll(before);
        if (before.size() >= 6) {
            meet("six pins undone");
        }
        for (int each : before) {
            if (isAtPairHungAgain(each)) {
                meet("undone with a pair hung again");
            }
        }
    }

    private Set<Integer> workedPins() {
        Set<Integer> worked = new HashSet<>();
        for (int pin = 0; pin < pins; pin++) {
            if (naive.isWorked(pin).equals("true")) {
                worked.add(pin);
            }
        }
        return worked;
    }

    private void lookAtAll() {
        due("isSound()", hall::isSound, naive.isSound());
        for (int i = 0; i < threads; i++) {
            int thread = i;
            due("used(" + i + ")", () -> hall.used(thread), naive.used(thread));
            due("worn(" + i + ")", () -> hall.worn(thread), naive.worn(thread));
            due("threadIn(" + i / 2 + ")", () -> hall.threadIn(thread / 2, thread % 2 == 1),
                    naive.threadIn(thread / 2, thread % 2 == 1));
        }
        for (int i = 0; i < pins; i++) {
            int pin = i;
            due("isWorked(" + i + ")", () -> hall.isWorked(pin), naive.isWorked(pin));
        }
        due("allCrossings()", hall::allCrossings, naive.allCrossings());
        due("isSound()", hall::isSound, naive.isSound());
    }

    private void look(int dice) {
        int pin = random.nextInt(pins + 1);
        int column = random.nextInt(columns);
        int thread = random.nextInt(threads + 1);
        int other = random.nextInt(threads + 1);
        int stitch = random.nextInt(stitches + 1);
        int word = random.nextInt(stitches + 1);
        int place = random.nextInt(4);
        int few = 1 + random.nextInt(4);
        boolean side = random.nextBoolean();
        switch (dice) {
            case 0 -> due("crossings(" + stitch + ")", () -> hall.crossings(stitch), naive.crossings(stitch));
            case 1 -> due("goesTo(" + stitch + ", " + place + ")", () -> hall.goesTo(stitch, place),
                    naive.goesTo(stitch, place));
            case 2 -> due("areAlike(" + stitch + ", " + word + ")", () -> hall.areAlike(stitch, word),
                    naive.areAlike(stitch, word));
            case 3 -> due("used(" + thread + ")", () -> hall.used(thread), naive.used(thread));
            case 4 -> due("worn(" + thread + ")", () -> hall.worn(thread), naive.worn(thread));
            case 5 -> due("endOf(" + thread + ", " + side + ")", () -> hall.endOf(thread, side),
                    naive.endOf(thread, side));
            case 6, 7 -> due("over(" + thread + ", " + other + ")", () -> hall.over(thread, other),
                    naive.over(thread, other));
            case 8 -> due("isWorked(" + pin + ")", () -> hall.isWorked(pin), naive.isWorked(pin));
            case 9 -> due("orders()", hall::orders, naive.orders());
            case 10 -> due("orderAt(" + pin + ")", () -> hall.orderAt(pin), naive.orderAt(pin));
            case 11 -> due("colourAt(" + pin + ", " + place + ")", () -> hall.colourAt(pin, place),
                    naive.colourAt(pin, place));
            case 12 -> due("closesBehind(" + few + ", " + stitch + ", " + word + ")",
                    () -> hall.closesBehind(few, stitch, word), naive.closesBehind(few, stitch, word));
            case 13 -> due("minutes(" + few + ")", () -> hall.minutes(few), naive.minutes(few));
            case 14 -> due("allCrossings()", hall::allCrossings, naive.allCrossings());
            case 15 -> due("workedShare()", hall::workedShare, naive.workedShare());
            case 16 -> due("meanUsed()", hall::meanUsed, naive.meanUsed());
            case 17 -> due("isSound()", hall::isSound, naive.isSound());
            case 18 -> due("canWork(" + pin + ")", () -> hall.canWork(pin), naive.canWork(pin));
            default -> due("threadIn(" + column + ", " + side + ")", () -> hall.threadIn(column, side),
                    naive.threadIn(column, side));
        }
    }
}
