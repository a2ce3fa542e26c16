import java.util.Random;

/** Long runs of random calls, each answer against that of the naive hall. Seeds are fixed. */
public final class LacehallRandomRuns {
    private static final int RUNS = 1000;
    private static final int CALLS = 512;
    private static final int[] WILD = {Integer.MIN_VALUE, -2, -1, 9, 10, 11, 12, 13, 19, 20, 21, 99, 100, 999,
        1000, Integer.MAX_VALUE};

    private final Random random;
    private final Lacehall hall = new Lacehall();
    private final NaiveHall naive = new NaiveHall();
    private final int seed;
    private int calls = 0;
    private int pinsTried = 0;

    private LacehallRandomRuns(int seed) {
        this.seed = seed;
        this.random = new Random(seed);
    }

    public static void main(String[] arguments) {
        for (int seed = 0; seed < RUNS; seed++) {
            new LacehallRandomRuns(seed).run();
        }
        Check.finish("LacehallRandomRuns");
    }

    private void run() {
        setUp();
        int changes = 150 + random.nextInt(250);
        while (calls < changes) {
            if (random.nextInt(4) == 0) {
                ask(random.nextInt(20));
            } else {
                change(random.nextInt(100));
            }
        }
        askAll();
        while (calls < CALLS) {
            ask(random.nextInt(4) == 0 ? random.nextInt(20) : 7);
        }
    }

    private void askAll() {
        for (int i = 0; i < 20; i++) {
            int thread = i;
            due("used(" + i, () -> hall.used(thread), naive.used(thread));
            due("worn(" + i, () -> hall.worn(thread), naive.worn(thread));
            due("threadIn(" + i / 2, () -> hall.threadIn(thread / 2, thread % 2 == 1),
                    naive.threadIn(thread / 2, thread % 2 == 1));
        }
        for (int i = 0; i < 12; i++) {
            int pin = i;
            due("isWorked(" + i, () -> hall.isWorked(pin), naive.isWorked(pin));
            due("orderAt(" + i, () -> hall.orderAt(pin), naive.orderAt(pin));
        }
        due("isSound()", hall::isSound, naive.isSound());
        due("allCrossings()", hall::allCrossings, naive.allCrossings());
        due("meanUsed()", hall::meanUsed, naive.meanUsed());
    }

    private void due(String call, Check.Call got, String want) {
        if (calls >= CALLS) {
            return;
        }
        calls++;
        String answer = Check.outcome(got);
        Check.is("seed " + seed + ", call " + calls + ": " + call, answer, want);
    }

    private int below(int bound) {
        if (random.nextInt(40) == 0) {
            return WILD[random.nextInt(WILD.length)];
        }
        return random.nextInt(bound);
    }

    private void setUp() {
        // Some runs begin with nothing, so that calls on an empty hall come too.
        if (seed % 8 == 7) {
            return;
        }
        int words = 2 + random.nextInt(5);
        for (int i = 0; i < words; i++) {
            int length = 1 + random.nextInt(8);
            for (int j = 0; j < length; j++) {
                putLetter("clrt".charAt(random.nextInt(4)));
            }
            makeStitch();
        }
        int columns = 3 + random.nextInt(8);
        for (int column = 0; column < columns && column < 10; column++) {
            hangPair(column);
        }
        int count = 4 + random.nextInt(8);
        for (int i = 0; i < count; i++) {
            addPin(random.nextInt(Math.min(9, columns)), random.nextInt(12), random.nextInt(words));
        }
    }

    private void putLetter(char letter) {
        due("letter(" + letter + ")", () -> hall.letter(letter), naive.letter(letter));
    }

    private void makeStitch() {
        due("stitch()", hall::stitch, naive.stitch());
    }

    private void hangPair(int column) {
        due("hang(" + column + ")", () -> hall.hang(column), naive.hang(column));
    }

    private void addPin(int column, int row, int stitch) {
        pinsTried++;
        due("pin(" + column + ", " + row + ", " + stitch + ")", () -> hall.pin(column, row, stitch),
                naive.pin(column, row, stitch));
    }

    private void change(int dice) {
        int pin = below(Math.min(12, pinsTried + 1));
        int column = below(10);
        int thread = below(20);
        if (dice < 40) {
            due("work(" + pin + ")", () -> hall.work(pin), naive.work(pin));
        } else if (dice < 52) {
            due("undo(" + pin + ")", () -> hall.undo(pin), naive.undo(pin));
        } else if (dice < 62) {
            due("sew(" + column + ", " + pin + ")", () -> hall.sew(column, pin), naive.sew(column, pin));
        } else if (dice < 66) {
            hangPair(column);
        } else if (dice < 68) {
            due("end(" + column + ")", () -> hall.end(column), naive.end(column));
        } else if (dice < 74) {
            addPin(below(9), below(100), below(6));
        } else if (dice < 80) {
            int length = below(40);
            due("wind(" + thread + ", " + length + ")", () -> hall.wind(thread, length),
                    naive.wind(thread, length));
        } else if (dice < 86) {
            int colour = below(10);
            due("setColour(" + thread + ", " + colour + ")", () -> hall.setColour(thread, colour),
                    naive.setColour(thread, colour));
        } else if (dice < 97) {
            putLetter("clrtclrtclrtclrtCT\u0000d\u00e9".charAt(random.nextInt(21)));
        } else {
            makeStitch();
        }
    }

    private void ask(int dice) {
        int pin = below(Math.min(12, pinsTried + 1));
        int column = below(10);
        int thread = below(20);
        int other = below(20);
        int stitch = below(6);
        int word = below(6);
        int place = below(4);
        boolean side = random.nextBoolean();
        String both = thread + ", " + other + ")";
        switch (dice) {
            case 0 -> due("crossings(" + stitch, () -> hall.crossings(stitch), naive.crossings(stitch));
            case 1 -> due("goesTo(" + stitch + ", " + place, () -> hall.goesTo(stitch, place),
                    naive.goesTo(stitch, place));
            case 2 -> due("areAlike(" + stitch + ", " + word, () -> hall.areAlike(stitch, word),
                    naive.areAlike(stitch, word));
            case 3 -> due("threadIn(" + column + ", " + side, () -> hall.threadIn(column, side),
                    naive.threadIn(column, side));
            case 4 -> due("used(" + thread, () -> hall.used(thread), naive.used(thread));
            case 5 -> due("worn(" + thread, () -> hall.worn(thread), naive.worn(thread));
            case 6 -> due("endOf(" + thread + ", " + side, () -> hall.endOf(thread, side),
                    naive.endOf(thread, side));
            case 7 -> due("over(" + both, () -> hall.over(thread, other), naive.over(thread, other));
            case 8 -> due("canWork(" + pin, () -> hall.canWork(pin), naive.canWork(pin));
            case 9 -> due("isWorked(" + pin, () -> hall.isWorked(pin), naive.isWorked(pin));
            case 10 -> due("orders()", hall::orders, naive.orders());
            case 11 -> due("orderAt(" + pin, () -> hall.orderAt(pin), naive.orderAt(pin));
            case 12 -> due("colourAt(" + pin + ", " + place, () -> hall.colourAt(pin, place),
                    naive.colourAt(pin, place));
            case 13 -> {
                int pairs = random.nextInt(6);
                due("closesBehind(" + pairs + ", " + stitch + ", " + word,
                        () -> hall.closesBehind(pairs, stitch, word), naive.closesBehind(pairs, stitch, word));
            }
            case 14 -> {
                int workers = below(6);
                due("minutes(" + workers, () -> hall.minutes(workers), naive.minutes(workers));
            }
            case 15 -> due("allCrossings()", hall::allCrossings, naive.allCrossings());
            case 16 -> due("workedShare()", hall::workedShare, naive.workedShare());
            case 17 -> due("meanUsed()", hall::meanUsed, naive.meanUsed());
            default -> due("isSound()", hall::isSound, naive.isSound());
        }
    }
}
