import java.util.ArrayList;
import java.util.Arrays;
import java.util.HashMap;
import java.util.List;
import java.util.Map;

/**
 * The document once more, in the slowest way: what is on the pillow is found by doing all that was done
 * again, crossing by crossing. Answers are texts: a number, true or false, or "throws X".
 */
final class NaiveHall {
    private static final String OUT = "throws IndexOutOfBoundsException";
    private static final String ARGUMENT = "throws IllegalArgumentException";
    private static final String STATE = "throws IllegalStateException";
    private static final String UNSUPPORTED = "throws UnsupportedOperationException";
    private static final String NO_ELEMENT = "throws NoSuchElementException";
    private static final String ARITHMETIC = "throws ArithmeticException";

    /** kind is h, e, s or w; number is the thread, nothing, the pin, the pin. */
    private record Deed(char kind, int column, int number) {
    }

    private record PinSpot(int column, int row, int stitch) {
    }

    /** The pillow behind a row of deeds. */
    private static final class Pillow {
        final int[][] pairs = new int[10][];
        final int[] used = new int[20];
        final int[][] over = new int[20][20];
        final Map<Integer, int[]> outs = new HashMap<>();
        final Map<Integer, int[]> crossed = new HashMap<>();
        long crossings = 0;
    }

    private final StringBuilder buffer = new StringBuilder();
    private final List<String> stitches = new ArrayList<>();
    private final List<Deed> deeds = new ArrayList<>();
    private final List<PinSpot> pins = new ArrayList<>();
    private final int[] colour = new int[20];
    private final int[] wound = new int[20];
    private final int[] worn = new int[20];
    private final int[] began = new int[20];
    private final int[] ended = new int[20];
    private int threads = 0;
    private int sewn = 0;

    private Pillow pillow() {
        Pillow now = new Pillow();
        for (Deed deed : deeds) {
            switch (deed.kind) {
                case 'h' -> now.pairs[deed.column] = new int[] {deed.number, deed.number + 1};
                case 'e' -> now.pairs[deed.column] = null;
                case 's' -> {
                    now.used[now.pairs[deed.column][0]] += 3;
                    now.used[now.pairs[deed.column][1]] += 3;
                }
                default -> workOn(now, deed);
            }
        }
        return now;
    }

    private void workOn(Pillow now, Deed deed) {
        int[] left = now.pairs[deed.column];
        int[] right = now.pairs[deed.column + 1];
        int[] four = {left[0], left[1], right[0], right[1]};
        int[] crossed = new int[20];
        for (int thread : four) {
            now.used[thread] += 2;
        }
        for (int[] crossing : crossingsOf(stitches.get(pins.get(deed.number).stitch))) {
            int above = four[crossing[0]];
            int below = four[crossing[1]];
            now.over[above][below]++;
            now.used[above]++;
            now.used[below]++;
            crossed[above]++;
            crossed[below]++;
            now.crossings++;
            four[crossing[0]] = below;
            four[crossing[1]] = above;
        }
        now.pairs[deed.column] = new int[] {four[0], four[1]};
        now.pairs[deed.column + 1] = new int[] {four[2], four[3]};
        now.outs.put(deed.number, four);
        now.crossed.put(deed.number, crossed);
    }

    /** For each crossing the place of the thread above and that of the one below. */
    private static List<int[]> crossingsOf(String word) {
        List<int[]> all = new ArrayList<>();
        for (char letter : word.toCharArray()) {
            if (letter == 'c') {
                all.add(new int[] {1, 2});
            }
            if (letter == 'l' || letter == 't') {
                all.add(new int[] {1, 0});
            }
            if (letter == 'r' || letter == 't') {
                all.add(new int[] {3, 2});
            }
        }
        return all;
    }

    private static int[] placesBehind(String word, int threadCount, int first, int[] places) {
        int[] now = places.clone();
        for (int[] crossing : crossingsOf(word)) {
            int held = now[first + crossing[0]];
            now[first + crossing[0]] = now[first + crossing[1]];
            now[first + crossing[1]] = held;
        }
        return Arrays.copyOf(now, threadCount);
    }

    /** What the braid makes of the four free generators (Artin): only the same braid makes the same of them. */
    static List<List<Integer>> artin(String word) {
        List<List<Integer>> images = new ArrayList<>();
        for (int i = 1; i <= 4; i++) {
            images.add(List.of(i));
        }
        for (int[] crossing : crossingsOf(word)) {
            int at = Math.min(crossing[0], crossing[1]);
            List<Integer> one = images.get(at);
            List<Integer> two = images.get(at + 1);
            if (crossing[0] < crossing[1]) {
                images.set(at, product(one, two, inverse(one)));
                images.set(at + 1, one);
            } else {
                images.set(at, two);
                images.set(at + 1, product(inverse(two), one, two));
            }
        }
        return images;
    }

    private static List<Integer> inverse(List<Integer> word) {
        List<Integer> turned = new ArrayList<>();
        for (int i = word.size() - 1; i >= 0; i--) {
            turned.add(-word.get(i));
        }
        return turned;
    }

    private static List<Integer> product(List<Integer> one, List<Integer> two, List<Integer> three) {
        List<Integer> reduced = new ArrayList<>();
        for (List<Integer> part : List.of(one, two, three)) {
            for (int letter : part) {
                int last = reduced.size() - 1;
                if (last >= 0 && reduced.get(last) == -letter) {
                    reduced.remove(last);
                } else {
                    reduced.add(letter);
                }
            }
        }
        return reduced;
    }

    private boolean noStitch(int stitch) {
        return stitch < 0 || stitch >= stitches.size();
    }

    private boolean noThread(int thread) {
        return thread < 0 || thread >= threads;
    }

    private boolean noPin(int pin) {
        return pin < 0 || pin >= pins.size();
    }

    private static boolean noColumn(int column) {
        return column < 0 || column > 9;
    }

    private boolean worked(int pin) {
        return deeds.stream().anyMatch(deed -> deed.kind == 'w' && deed.number == pin);
    }

    private int workedCount() {
        return (int) deeds.stream().filter(deed -> deed.kind == 'w').count();
    }

    private boolean ahead(int pin, int other) {
        PinSpot one = pins.get(pin);
        PinSpot two = pins.get(other);
        return Math.abs(one.column - two.column) <= 1 && one.row < two.row;
    }

    String letter(char letter) {
        if ("clrt".indexOf(letter) < 0) {
            return ARGUMENT;
        }
        if (buffer.length() == 8) {
            return STATE;
        }
        buffer.append(letter);
        return "" + buffer.length();
    }

    String stitch() {
        if (buffer.length() == 0) {
            return UNSUPPORTED;
        }
        if (stitches.size() == 12) {
            return STATE;
        }
        stitches.add(buffer.toString());
        buffer.setLength(0);
        return "" + (stitches.size() - 1);
    }

    String crossings(int stitch) {
        return noStitch(stitch) ? OUT : "" + crossingsOf(stitches.get(stitch)).size();
    }

    String goesTo(int stitch, int place) {
        if (noStitch(stitch)) {
            return OUT;
        }
        if (place < 0 || place > 3) {
            return ARGUMENT;
        }
        int[] behind = placesBehind(stitches.get(stitch), 4, 0, new int[] {0, 1, 2, 3});
        for (int i = 0; i < 4; i++) {
            if (behind[i] == place) {
                return "" + i;
            }
        }
        return "lost";
    }

    String areAlike(int stitch, int other) {
        if (noStitch(stitch) || noStitch(other)) {
            return OUT;
        }
        return "" + artin(stitches.get(stitch)).equals(artin(stitches.get(other)));
    }

    String hang(int column) {
        if (noColumn(column)) {
            return OUT;
        }
        if (pillow().pairs[column] != null) {
            return UNSUPPORTED;
        }
        if (threads + 2 > 20) {
            return STATE;
        }
        for (int i = 0; i < 2; i++) {
            wound[threads] = 100;
            began[threads] = column;
            ended[threads] = -1;
            threads++;
        }
        deeds.add(new Deed('h', column, threads - 2));
        return "" + (threads - 2);
    }

    String end(int column) {
        if (noColumn(column)) {
            return OUT;
        }
        int[] pair = pillow().pairs[column];
        if (pair == null) {
            return UNSUPPORTED;
        }
        ended[pair[0]] = column;
        ended[pair[1]] = column;
        deeds.add(new Deed('e', column, -1));
        return "" + Arrays.stream(pillow().pairs).filter(left -> left != null).count();
    }

    String threadIn(int column, boolean isRight) {
        if (noColumn(column)) {
            return OUT;
        }
        int[] pair = pillow().pairs[column];
        return pair == null ? "-1" : "" + pair[isRight ? 1 : 0];
    }

    String setColour(int thread, int to) {
        if (noThread(thread)) {
            return OUT;
        }
        if (to < 0 || to > 9) {
            return ARGUMENT;
        }
        int before = colour[thread];
        colour[thread] = to;
        return "" + before;
    }

    String wind(int thread, int length) {
        if (noThread(thread)) {
            return OUT;
        }
        if (length < 1 || length > 999) {
            return ARGUMENT;
        }
        wound[thread] += length;
        return "" + wound[thread];
    }

    String used(int thread) {
        return noThread(thread) ? OUT : "" + pillow().used[thread];
    }

    String worn(int thread) {
        return noThread(thread) ? OUT : "" + worn[thread];
    }

    String endOf(int thread, boolean isEnd) {
        if (noThread(thread)) {
            return OUT;
        }
        if (!isEnd) {
            return "" + began[thread];
        }
        return ended[thread] < 0 ? NO_ELEMENT : "" + ended[thread];
    }

    String over(int thread, int other) {
        if (noThread(thread) || noThread(other)) {
            return OUT;
        }
        return thread == other ? ARGUMENT : "" + pillow().over[thread][other];
    }

    String pin(int column, int row, int stitch) {
        if (column < 0 || column > 8 || noStitch(stitch)) {
            return OUT;
        }
        if (row < 0 || row > 99) {
            return ARGUMENT;
        }
        for (int i = 0; i < pins.size(); i++) {
            PinSpot pin = pins.get(i);
            if (Math.abs(pin.column - column) <= 1 && (pin.row == row || pin.row > row && worked(i))) {
                return UNSUPPORTED;
            }
        }
        if (pins.size() == 12) {
            return STATE;
        }
        pins.add(new PinSpot(column, row, stitch));
        return "" + (pins.size() - 1);
    }

    String canWork(int pin) {
        return noPin(pin) ? OUT : "" + workable(pin);
    }

    private boolean workable(int pin) {
        if (worked(pin)) {
            return false;
        }
        for (int i = 0; i < pins.size(); i++) {
            if (ahead(i, pin) && !worked(i)) {
                return false;
            }
        }
        Pillow now = pillow();
        PinSpot spot = pins.get(pin);
        int[] left = now.pairs[spot.column];
        int[] right = now.pairs[spot.column + 1];
        if (left == null || right == null) {
            return false;
        }
        int[] before = now.used.clone();
        workOn(now, new Deed('w', spot.column, pin));
        for (int thread : new int[] {left[0], left[1], right[0], right[1]}) {
            if (wound[thread] - before[thread] < now.used[thread] - before[thread]) {
                return false;
            }
        }
        return true;
    }

    String work(int pin) {
        if (noPin(pin)) {
            return OUT;
        }
        if (!workable(pin)) {
            return UNSUPPORTED;
        }
        deeds.add(new Deed('w', pins.get(pin).column, pin));
        return "" + workedCount();
    }

    String isWorked(int pin) {
        return noPin(pin) ? OUT : "" + worked(pin);
    }

    private boolean reaches(int pin, int other) {
        if (pin == other) {
            return true;
        }
        for (int i = 0; i < pins.size(); i++) {
            if (ahead(pin, i) && reaches(i, other)) {
                return true;
            }
        }
        return false;
    }

    String undo(int pin) {
        if (noPin(pin)) {
            return OUT;
        }
        if (!worked(pin)) {
            return UNSUPPORTED;
        }
        List<Integer> undone = new ArrayList<>();
        for (int i = 0; i < pins.size(); i++) {
            if (worked(i) && reaches(pin, i)) {
                undone.add(i);
            }
        }
        int since = deeds.indexOf(new Deed('w', pins.get(pin).column, pin));
        for (Deed deed : deeds.subList(since, deeds.size())) {
            for (int each : undone) {
                int column = pins.get(each).column;
                if (deed.kind != 'w' && (deed.column == column || deed.column == column + 1)) {
                    return UNSUPPORTED;
                }
                if (deed.kind == 's' && deed.number == each) {
                    return UNSUPPORTED;
                }
            }
        }
        Pillow now = pillow();
        for (int each : undone) {
            for (int thread = 0; thread < 20; thread++) {
                worn[thread] += now.crossed.get(each)[thread];
            }
        }
        deeds.removeIf(deed -> deed.kind == 'w' && undone.contains(deed.number));
        return "" + undone.size();
    }

    String sew(int column, int pin) {
        if (noColumn(column) || noPin(pin)) {
            return OUT;
        }
        Pillow now = pillow();
        int[] pair = now.pairs[column];
        int apart = column - pins.get(pin).column;
        if (pair == null || !worked(pin) || apart < -1 || apart > 2) {
            return UNSUPPORTED;
        }
        for (int thread : pair) {
            if (wound[thread] - now.used[thread] < 3) {
                return UNSUPPORTED;
            }
        }
        deeds.add(new Deed('s', column, pin));
        sewn++;
        return "" + sewn;
    }

    String orders() {
        return "" + ordersBehind(0, new HashMap<>());
    }

    private boolean ready(int done, int pin) {
        if ((done >> pin & 1) == 1) {
            return false;
        }
        for (int i = 0; i < pins.size(); i++) {
            if (ahead(i, pin) && (done >> i & 1) == 0) {
                return false;
            }
        }
        return true;
    }

    private long ordersBehind(int done, Map<Integer, Long> known) {
        if (Integer.bitCount(done) == pins.size()) {
            return 1;
        }
        Long before = known.get(done);
        if (before != null) {
            return before;
        }
        long sum = 0;
        for (int i = 0; i < pins.size(); i++) {
            if (ready(done, i)) {
                sum += ordersBehind(done | 1 << i, known);
            }
        }
        known.put(done, sum);
        return sum;
    }

    String orderAt(int index) {
        if (index < 0 || index >= pins.size()) {
            return OUT;
        }
        List<Integer> order = new ArrayList<>();
        return fill(order, 0) ? "" + order.get(index) : "lost";
    }

    private boolean fill(List<Integer> order, int done) {
        if (order.size() == pins.size()) {
            return true;
        }
        for (int i = 0; i < pins.size(); i++) {
            if (ready(done, i)) {
                order.add(i);
                if (fill(order, done | 1 << i)) {
                    return true;
                }
                order.remove(order.size() - 1);
            }
        }
        return false;
    }

    String colourAt(int pin, int place) {
        if (noPin(pin)) {
            return OUT;
        }
        if (place < 0 || place > 3) {
            return ARGUMENT;
        }
        return worked(pin) ? "" + colour[pillow().outs.get(pin)[place]] : UNSUPPORTED;
    }

    String closesBehind(int pairs, int stitch, int other) {
        if (pairs < 2 || pairs > 4) {
            return ARGUMENT;
        }
        if (noStitch(stitch) || noStitch(other)) {
            return OUT;
        }
        int[] first = new int[2 * pairs];
        Arrays.setAll(first, i -> i);
        int[] now = first.clone();
        for (int row = 1; ; row++) {
            for (int pair = row % 2 == 1 ? 0 : 1; pair + 1 < pairs; pair += 2) {
                String word = stitches.get(row % 2 == 1 ? stitch : other);
                now = placesBehind(word, 2 * pairs, 2 * pair, now);
            }
            if (row % 2 == 0 && Arrays.equals(now, first)) {
                return "" + row;
            }
        }
    }

    String minutes(int workers) {
        if (workers < 1 || workers > 4) {
            return ARGUMENT;
        }
        int[] endAt = new int[pins.size()];
        Arrays.fill(endAt, Integer.MAX_VALUE);
        int[] pinOf = new int[workers];
        Arrays.fill(pinOf, -1);
        int lastEnd = 0;
        for (int minute = 0; minute < 200; minute++) {
            for (int worker = 0; worker < workers; worker++) {
                if (pinOf[worker] >= 0 && endAt[pinOf[worker]] > minute) {
                    continue;
                }
                pinOf[worker] = -1;
                for (int pin = 0; pin < pins.size() && pinOf[worker] < 0; pin++) {
                    boolean free = endAt[pin] == Integer.MAX_VALUE;
                    for (int i = 0; i < pins.size(); i++) {
                        free &= !ahead(i, pin) || endAt[i] <= minute;
                    }
                    if (free) {
                        pinOf[worker] = pin;
                        endAt[pin] = minute + stitches.get(pins.get(pin).stitch).length();
                        lastEnd = Math.max(lastEnd, endAt[pin]);
                    }
                }
            }
        }
        return "" + lastEnd;
    }

    String allCrossings() {
        return "" + pillow().crossings;
    }

    String workedShare() {
        return pins.isEmpty() ? ARITHMETIC : "" + (float) workedCount() / (float) pins.size();
    }

    String meanUsed() {
        return threads == 0 ? ARITHMETIC
                : "" + (double) Arrays.stream(pillow().used).sum() / (double) threads;
    }

    String isSound() {
        return "true";
    }
}
