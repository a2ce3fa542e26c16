/** Each promise by its number: ordinary inputs, the edges that the document names, and wrong inputs. */
public final class LacehallPromises {
    private static final int[] OUTSIDE = {Integer.MIN_VALUE, -1, 100000, Integer.MAX_VALUE};

    public static void main(String[] arguments) {
        promise1NewObject();
        promise2Letter();
        promise3Stitch();
        promise4Crossings();
        promise5GoesTo();
        promise6AreAlike();
        promise7Hang();
        promise8End();
        promise9ThreadIn();
        promise10SetColour();
        promise11Wind();
        promise12Used();
        promise13Worn();
        promise14EndOf();
        promise15Over();
        promise16Pin();
        promise17CanWork();
        promise17LengthLeft();
        promise18Work();
        promise19IsWorked();
        promise20Undo();
        promise20UndoIsHeldByColumns();
        promise20UndoIsHeldBySewings();
        promise20UndoOfWhatCameBehind();
        promise21Sew();
        promise21SewLength();
        promise22Orders();
        promise23OrderAt();
        promise24ColourAt();
        promise25ClosesBehind();
        promise26Minutes();
        promise27AllCrossings();
        promise28WorkedShare();
        promise29MeanUsed();
        promise30IsSound();
        whatThrowsChangesNothing();
        Check.finish("LacehallPromises");
    }

    private static int stitchOf(Lacehall hall, String word) {
        for (char letter : word.toCharArray()) {
            hall.letter(letter);
        }
        return hall.stitch();
    }

    private static Lacehall withStitches(String... words) {
        Lacehall hall = new Lacehall();
        for (String word : words) {
            stitchOf(hall, word);
        }
        return hall;
    }

    /** Pairs in the columns from 0 on. */
    private static Lacehall hung(int pairs, String... words) {
        Lacehall hall = withStitches(words);
        for (int column = 0; column < pairs; column++) {
            hall.hang(column);
        }
        return hall;
    }

    private static void columns(String what, Lacehall hall, int... due) {
        for (int i = 0; i < due.length; i++) {
            Check.is(what + ", slot " + i, hall.threadIn(i / 2, i % 2 == 1), due[i]);
        }
    }

    private static void promise1NewObject() {
        Lacehall hall = new Lacehall();
        for (int i = 0; i < 10; i++) {
            Check.is("1: a new column", hall.threadIn(i, false), -1);
            Check.is("1: a new column", hall.threadIn(i, true), -1);
        }
        Check.outOfBounds("1: no stitch", () -> hall.crossings(0));
        Check.outOfBounds("1: no thread", () -> hall.used(0));
        Check.outOfBounds("1: no pin", () -> hall.isWorked(0));
        Check.is("1: buffer", hall.letter('c'), 1);
        Check.is("1: another object has its own buffer", new Lacehall().letter('c'), 1);
        Check.is("1: no crossings", new Lacehall().allCrossings(), 0L);
    }

    private static void promise2Letter() {
        Lacehall hall = new Lacehall();
        String letters = "clrtcclr";
        for (char wrong : new char[] {'C', 'T', 'b', 'd', 0, ' ', 'k', 'm', 's', 'u', 'q', 255, 0xffff}) {
            Check.illegalArgument("2: letter " + (int) wrong, () -> hall.letter(wrong));
        }
        for (int i = 0; i < 8; i++) {
            Check.is("2: letter", hall.letter(letters.charAt(i)), i + 1);
        }
        Check.illegalState("2: a ninth letter", () -> hall.letter('c'));
        Check.illegalArgument("2: a wrong ninth letter", () -> hall.letter('x'));
        hall.stitch();
        Check.is("2: letter behind a stitch", hall.letter('r'), 1);
    }

    private static void promise3Stitch() {
        Lacehall hall = new Lacehall();
        Check.unsupported("3: empty buffer", hall::stitch);
        for (int i = 0; i < 12; i++) {
            hall.letter('c');
            Check.is("3: stitch", hall.stitch(), i);
            Check.unsupported("3: empty buffer again", hall::stitch);
        }
        hall.letter('t');
        Check.illegalState("3: a thirteenth stitch", hall::stitch);
        Check.is("3: the buffer stands", hall.letter('t'), 2);
        Check.outOfBounds("3: no thirteenth stitch", () -> hall.crossings(12));
        Check.is("3: the first stands", hall.crossings(0), 1);
    }

    private static void promise4Crossings() {
        Lacehall hall = withStitches("c", "l", "r", "t", "ctc", "tttttttt", "clrtclrt");
        int[] due = {1, 1, 1, 2, 4, 16, 10};
        for (int i = 0; i < due.length; i++) {
            Check.is("4: crossings of " + i, hall.crossings(i), due[i]);
        }
        Check.outOfBounds("4: stitch 7", () -> hall.crossings(7));
        for (int outside : OUTSIDE) {
            Check.outOfBounds("4: stitch " + outside, () -> hall.crossings(outside));
        }
    }

    private static void promise5GoesTo() {
        Lacehall hall = withStitches("c", "l", "r", "t", "ctc", "cl", "lc", "tt");
        String[] due = {"0213", "1023", "0132", "1032", "2301", "1203", "2013", "0123"};
        for (int stitch = 0; stitch < due.length; stitch++) {
            for (int place = 0; place < 4; place++) {
                Check.is("5: goesTo(" + stitch + ", " + place + ")", hall.goesTo(stitch, place),
                        due[stitch].charAt(place) - '0');
            }
        }
        Check.illegalArgument("5: place 4", () -> hall.goesTo(0, 4));
        Check.illegalArgument("5: place -1", () -> hall.goesTo(0, -1));
        Check.outOfBounds("5: stitch and place", () -> hall.goesTo(8, 4));
        for (int outside : OUTSIDE) {
            Check.outOfBounds("5: stitch " + outside, () -> hall.goesTo(outside, 0));
            Check.illegalArgument("5: place " + outside, () -> hall.goesTo(0, outside));
        }
    }

    private static void promise6AreAlike() {
        Lacehall hall = withStitches("ctc", "clrc", "crlc", "tct", "lr", "t", "l", "lrc", "clr", "cl", "lc",
                "tt");
        int[][] alike = {{0, 1}, {0, 2}, {1, 2}, {4, 5}, {3, 3}};
        int[][] other = {{0, 3}, {6, 5}, {7, 8}, {9, 10}, {5, 11}, {4, 6}};
        for (int[] two : alike) {
            Check.is("6: areAlike " + two[0] + " " + two[1], hall.areAlike(two[0], two[1]), true);
            Check.is("6: areAlike " + two[1] + " " + two[0], hall.areAlike(two[1], two[0]), true);
        }
        for (int[] two : other) {
            Check.is("6: areAlike " + two[0] + " " + two[1], hall.areAlike(two[0], two[1]), false);
            Check.is("6: areAlike " + two[1] + " " + two[0], hall.areAlike(two[1], two[0]), false);
        }
        Lacehall same = withStitches("clc", "lcl", "cccc", "cc", "lrlrlrlr", "tttt", "ctctctct", "ctctctlr",
                "ctctctcr");
        Check.is("6: c and l cross in unlike ways", same.areAlike(0, 1), false);
        Check.is("6: twists are not undone", same.areAlike(2, 3), false);
        Check.is("6: four twists", same.areAlike(4, 5), true);
        Check.is("6: long words", same.areAlike(6, 7), false);
        Check.is("6: long words", same.areAlike(6, 8), false);
        Check.is("6: a long word", same.areAlike(6, 6), true);
        Check.outOfBounds("6: first", () -> same.areAlike(9, 0));
        Check.outOfBounds("6: second", () -> same.areAlike(0, 9));
        for (int outside : OUTSIDE) {
            Check.outOfBounds("6: stitch " + outside, () -> same.areAlike(outside, 0));
            Check.outOfBounds("6: other " + outside, () -> same.areAlike(0, outside));
        }
    }

    private static void promise7Hang() {
        Lacehall hall = new Lacehall();
        for (int outside : new int[] {Integer.MIN_VALUE, -1, 10, Integer.MAX_VALUE}) {
            Check.outOfBounds("7: column " + outside, () -> hall.hang(outside));
        }
        Check.is("7: hang", hall.hang(9), 0);
        Check.is("7: hang", hall.hang(0), 2);
        Check.unsupported("7: it has a pair", () -> hall.hang(9));
        Check.is("7: left", hall.threadIn(9, false), 0);
        Check.is("7: right", hall.threadIn(9, true), 1);
        for (int column = 1; column < 9; column++) {
            Check.is("7: hang", hall.hang(column), 2 + 2 * column);
        }
        Check.unsupported("7: a pair and no more threads", () -> hall.hang(4));
        hall.end(4);
        Check.illegalState("7: more than 20 threads", () -> hall.hang(4));
        Check.outOfBounds("7: column 10", () -> hall.hang(10));
        Check.is("7: nothing hung", hall.threadIn(4, false), -1);
        Lacehall again = new Lacehall();
        again.hang(3);
        again.end(3);
        Check.is("7: numbers are not used again", again.hang(3), 2);
        Check.is("7: colour at first", again.setColour(2, 1), 0);
        Check.is("7: length at first", again.wind(3, 1), 101);
    }

    private static void promise8End() {
        Lacehall hall = hung(3, "c");
        for (int outside : new int[] {Integer.MIN_VALUE, -1, 10, Integer.MAX_VALUE}) {
            Check.outOfBounds("8: column " + outside, () -> hall.end(outside));
        }
        Check.unsupported("8: no pair", () -> hall.end(3));
        Check.is("8: end", hall.end(1), 2);
        columns("8: ended", hall, 0, 1, -1, -1, 4, 5);
        Check.unsupported("8: no pair any more", () -> hall.end(1));
        Check.is("8: end", hall.end(0), 1);
        Check.is("8: end", hall.end(2), 0);
        Check.is("8: threads stay numbered", hall.used(5), 0);
    }

    private static void promise9ThreadIn() {
        Lacehall hall = hung(2, "c", "ctc");
        columns("9: hung", hall, 0, 1, 2, 3, -1, -1);
        hall.pin(0, 0, 0);
        hall.pin(0, 1, 1);
        hall.work(0);
        columns("9: behind c", hall, 0, 2, 1, 3);
        hall.work(1);
        columns("9: behind c and ctc", hall, 1, 3, 0, 2);
        for (int outside : new int[] {Integer.MIN_VALUE, -1, 10, Integer.MAX_VALUE}) {
            Check.outOfBounds("9: column " + outside, () -> hall.threadIn(outside, true));
            Check.outOfBounds("9: column " + outside, () -> hall.threadIn(outside, false));
        }
    }

    private static void promise10SetColour() {
        Lacehall hall = hung(1, "c");
        Check.is("10: colour", hall.setColour(1, 9), 0);
        Check.is("10: colour", hall.setColour(1, 0), 9);
        Check.is("10: colour", hall.setColour(0, 5), 0);
        Check.illegalArgument("10: colour 10", () -> hall.setColour(0, 10));
        Check.illegalArgument("10: colour -1", () -> hall.setColour(0, -1));
        Check.outOfBounds("10: thread and colour", () -> hall.setColour(2, 10));
        Check.outOfBounds("10: thread -1", () -> hall.setColour(-1, 0));
        Check.outOfBounds("10: thread 20", () -> hall.setColour(20, 0));
        for (int outside : OUTSIDE) {
            Check.outOfBounds("10: thread " + outside, () -> hall.setColour(outside, 0));
            Check.illegalArgument("10: colour " + outside, () -> hall.setColour(0, outside));
        }
        Check.is("10: unchanged", hall.setColour(0, 1), 5);
        hall.end(0);
        Check.is("10: an ended thread", hall.setColour(0, 2), 1);
    }

    private static void promise11Wind() {
        Lacehall hall = hung(1, "c");
        Check.is("11: wind", hall.wind(0, 1), 101);
        Check.is("11: wind", hall.wind(0, 999), 1100);
        Check.is("11: wind", hall.wind(1, 999), 1099);
        Check.illegalArgument("11: length 0", () -> hall.wind(0, 0));
        Check.illegalArgument("11: length 1000", () -> hall.wind(0, 1000));
        Check.outOfBounds("11: thread and length", () -> hall.wind(2, 0));
        for (int outside : OUTSIDE) {
            Check.outOfBounds("11: thread " + outside, () -> hall.wind(outside, 1));
            Check.illegalArgument("11: length " + outside, () -> hall.wind(0, outside));
        }
        Check.is("11: unchanged", hall.wind(0, 1), 1101);
        Check.is("11: not used", hall.used(0), 0);
    }

    private static void promise12Used() {
        Lacehall hall = hung(3, "ctc", "l");
        hall.pin(0, 0, 0);
        hall.pin(1, 1, 1);
        hall.work(0);
        int[] first = {4, 4, 4, 4, 0, 0};
        for (int thread = 0; thread < 6; thread++) {
            Check.is("12: used by ctc", hall.used(thread), first[thread]);
        }
        columns("12: behind ctc", hall, 2, 3, 0, 1, 4, 5);
        hall.work(1);
        hall.sew(2, 1);
        int[] second = {7, 7, 4, 4, 5, 5};
        for (int thread = 0; thread < 6; thread++) {
            Check.is("12: used then", hall.used(thread), second[thread]);
        }
        Check.outOfBounds("12: thread 6", () -> hall.used(6));
        for (int outside : OUTSIDE) {
            Check.outOfBounds("12: thread " + outside, () -> hall.used(outside));
        }
    }

    private static void promise13Worn() {
        Lacehall hall = hung(2, "ctc", "l");
        hall.pin(0, 0, 0);
        hall.pin(0, 1, 1);
        hall.work(0);
        hall.work(1);
        for (int thread = 0; thread < 4; thread++) {
            Check.is("13: not worn by work", hall.worn(thread), 0);
        }
        hall.undo(0);
        int[] due = {2, 2, 3, 3};
        for (int thread = 0; thread < 4; thread++) {
            Check.is("13: worn", hall.worn(thread), due[thread]);
        }
        hall.work(0);
        hall.undo(0);
        for (int thread = 0; thread < 4; thread++) {
            Check.is("13: worn again", hall.worn(thread), due[thread] + 2);
            Check.is("13: nothing used", hall.used(thread), 0);
        }
        Check.outOfBounds("13: thread 4", () -> hall.worn(4));
        for (int outside : OUTSIDE) {
            Check.outOfBounds("13: thread " + outside, () -> hall.worn(outside));
        }
    }

    private static void promise14EndOf() {
        Lacehall hall = withStitches("c");
        hall.hang(4);
        hall.hang(5);
        hall.pin(4, 0, 0);
        hall.work(0);
        Check.noSuchElement("14: not ended", () -> hall.endOf(0, true));
        Check.is("14: began", hall.endOf(0, false), 4);
        Check.is("14: began", hall.endOf(1, false), 4);
        Check.is("14: began", hall.endOf(2, false), 5);
        hall.end(5);
        Check.is("14: ended", hall.endOf(1, true), 5);
        Check.is("14: ended", hall.endOf(3, true), 5);
        Check.is("14: began elsewhere", hall.endOf(1, false), 4);
        Check.noSuchElement("14: not ended", () -> hall.endOf(2, true));
        hall.end(4);
        Check.is("14: ended", hall.endOf(0, true), 4);
        Check.is("14: ended", hall.endOf(2, true), 4);
        Check.outOfBounds("14: thread 4", () -> hall.endOf(4, true));
        Check.outOfBounds("14: thread 4", () -> hall.endOf(4, false));
        for (int outside : OUTSIDE) {
            Check.outOfBounds("14: thread " + outside, () -> hall.endOf(outside, true));
        }
    }

    private static void over(String what, Lacehall hall, int threads, String... pairs) {
        int[][] due = new int[threads][threads];
        for (String pair : pairs) {
            due[pair.charAt(0) - '0'][pair.charAt(1) - '0']++;
        }
        for (int i = 0; i < threads; i++) {
            for (int j = 0; j < threads; j++) {
                if (i != j) {
                    Check.is(what + " over(" + i + ", " + j + ")", hall.over(i, j), due[i][j]);
                }
            }
        }
    }

    private static void promise15Over() {
        Lacehall hall = hung(2, "c", "l", "r", "ctc");
        hall.pin(0, 0, 0);
        hall.pin(0, 1, 1);
        hall.pin(0, 2, 2);
        hall.pin(0, 3, 3);
        over("15: at first", hall, 4);
        hall.work(0);
        over("15: c", hall, 4, "12");
        hall.work(1);
        over("15: l", hall, 4, "12", "20");
        hall.work(2);
        over("15: r", hall, 4, "12", "20", "31");
        columns("15: then", hall, 2, 0, 3, 1);
        hall.work(3);
        over("15: ctc", hall, 4, "12", "20", "31", "03", "32", "10", "21");
        hall.undo(3);
        over("15: undone", hall, 4, "12", "20", "31");
        Check.illegalArgument("15: the same", () -> hall.over(2, 2));
        Check.outOfBounds("15: other", () -> hall.over(2, 4));
        Check.outOfBounds("15: thread", () -> hall.over(4, 2));
        Check.outOfBounds("15: both the same and none", () -> hall.over(4, 4));
        for (int outside : OUTSIDE) {
            Check.outOfBounds("15: thread " + outside, () -> hall.over(outside, 0));
            Check.outOfBounds("15: other " + outside, () -> hall.over(0, outside));
        }
    }

    private static void promise16Pin() {
        Lacehall hall = hung(4, "c");
        Check.is("16: pin", hall.pin(0, 99, 0), 0);
        Check.is("16: pin", hall.pin(8, 0, 0), 1);
        Check.outOfBounds("16: column 9", () -> hall.pin(9, 0, 0));
        Check.outOfBounds("16: column -1", () -> hall.pin(-1, 0, 0));
        Check.outOfBounds("16: stitch 1", () -> hall.pin(0, 0, 1));
        Check.outOfBounds("16: stitch -1", () -> hall.pin(0, 0, -1));
        Check.outOfBounds("16: column and row", () -> hall.pin(9, 100, 0));
        Check.illegalArgument("16: row 100", () -> hall.pin(0, 100, 0));
        Check.illegalArgument("16: row -1", () -> hall.pin(0, -1, 0));
        for (int outside : OUTSIDE) {
            Check.outOfBounds("16: column " + outside, () -> hall.pin(outside, 0, 0));
            Check.illegalArgument("16: row " + outside, () -> hall.pin(0, outside, 0));
            Check.outOfBounds("16: stitch " + outside, () -> hall.pin(0, 0, outside));
        }
        Check.unsupported("16: the same row, same column", () -> hall.pin(0, 99, 0));
        Check.unsupported("16: the same row, next column", () -> hall.pin(1, 99, 0));
        Check.unsupported("16: the same row, column before", () -> hall.pin(7, 0, 0));
        Check.is("16: the same row, two apart", hall.pin(2, 99, 0), 2);
        Check.is("16: a lower row, greater not worked", hall.pin(1, 50, 0), 3);
        hall.work(3);
        Check.unsupported("16: greater row is worked", () -> hall.pin(0, 49, 0));
        Check.unsupported("16: greater row is worked", () -> hall.pin(1, 0, 0));
        Check.unsupported("16: greater row is worked", () -> hall.pin(2, 49, 0));
        Check.is("16: not touched", hall.pin(3, 49, 0), 4);
        Check.is("16: a greater row than what is worked", hall.pin(1, 51, 0), 5);
        for (int i = 6; i < 12; i++) {
            Check.is("16: pin", hall.pin(5, i, 0), i);
        }
        Check.illegalState("16: a thirteenth pin", () -> hall.pin(5, 80, 0));
        Check.unsupported("16: the same row and no more pins", () -> hall.pin(5, 11, 0));
        Check.illegalArgument("16: row and no more pins", () -> hall.pin(5, 100, 0));
        Check.outOfBounds("16: no thirteenth pin", () -> hall.isWorked(12));
    }

    private static void promise17CanWork() {
        Lacehall hall = withStitches("c");
        hall.pin(0, 5, 0);
        hall.pin(1, 3, 0);
        hall.pin(3, 1, 0);
        Check.is("17: no pairs", hall.canWork(1), false);
        hall.hang(1);
        Check.is("17: left pair alone", hall.canWork(1), false);
        hall.hang(2);
        Check.is("17: both pairs", hall.canWork(1), true);
        hall.hang(0);
        Check.is("17: one ahead is not worked", hall.canWork(0), false);
        hall.work(1);
        Check.is("17: it is worked", hall.canWork(1), false);
        Check.is("17: one ahead is worked", hall.canWork(0), true);
        hall.hang(4);
        Check.is("17: right pair alone", hall.canWork(2), false);
        hall.hang(3);
        Check.is("17: both pairs", hall.canWork(2), true);
        hall.end(4);
        Check.is("17: ended", hall.canWork(2), false);
        Check.outOfBounds("17: pin 3", () -> hall.canWork(3));
        for (int outside : OUTSIDE) {
            Check.outOfBounds("17: pin " + outside, () -> hall.canWork(outside));
        }
    }

    private static void promise17LengthLeft() {
        // Of the thread in the place 0 each uses 2 and 1 for each of 8 crossings.
        Lacehall hall = hung(2, "llllllll", "c", "l");
        for (int i = 0; i < 10; i++) {
            hall.pin(0, i, 0);
            hall.work(i);
        }
        Check.is("17: all is used", hall.used(0), 100);
        Check.is("17: all is used", hall.used(1), 100);
        Check.is("17: others", hall.used(2), 20);
        hall.pin(0, 20, 1);
        Check.is("17: nothing left", hall.canWork(10), false);
        hall.wind(1, 3);
        Check.is("17: nothing left of one", hall.canWork(10), false);
        hall.wind(0, 1);
        Check.is("17: one too few", hall.canWork(10), false);
        hall.wind(0, 1);
        Check.is("17: just enough", hall.canWork(10), true);
        Check.is("17: sound with all used", hall.isSound(), true);
        hall.work(10);
        Check.is("17: sound with all used", hall.isSound(), true);
        Check.is("17: used", hall.used(1), 103);
    }

    private static void promise18Work() {
        Lacehall hall = hung(4, "ctc", "t");
        hall.pin(0, 0, 0);
        hall.pin(2, 0, 1);
        hall.pin(1, 1, 0);
        Check.unsupported("18: not ahead", () -> hall.work(2));
        Check.is("18: work", hall.work(1), 1);
        Check.unsupported("18: again", () -> hall.work(1));
        Check.unsupported("18: one ahead is missing", () -> hall.work(2));
        Check.is("18: work", hall.work(0), 2);
        columns("18: worked", hall, 2, 3, 0, 1, 5, 4, 7, 6);
        Check.is("18: work", hall.work(2), 3);
        columns("18: worked", hall, 2, 3, 5, 4, 0, 1, 7, 6);
        Check.outOfBounds("18: pin 3", () -> hall.work(3));
        for (int outside : OUTSIDE) {
            Check.outOfBounds("18: pin " + outside, () -> hall.work(outside));
        }
    }

    private static void promise19IsWorked() {
        Lacehall hall = hung(4, "c");
        for (int i = 0; i < 12; i++) {
            hall.pin(i % 2 * 2, i / 2, 0);
        }
        Check.is("19: at first", hall.isWorked(0), false);
        for (int i = 0; i < 12; i++) {
            hall.work(i);
            Check.is("19: worked", hall.isWorked(i), true);
            Check.is("19: the next one", i < 11 && hall.isWorked(i + 1), false);
        }
        hall.undo(10);
        Check.is("19: undone", hall.isWorked(10), false);
        Check.is("19: the last stays", hall.isWorked(11), true);
        Check.outOfBounds("19: pin 12", () -> hall.isWorked(12));
        for (int outside : OUTSIDE) {
            Check.outOfBounds("19: pin " + outside, () -> hall.isWorked(outside));
        }
    }

    private static void promise20Undo() {
        Lacehall hall = hung(4, "ctc", "cl", "r");
        hall.pin(0, 0, 1);
        hall.pin(1, 1, 0);
        hall.pin(2, 2, 2);
        hall.pin(2, 0, 2);
        Check.unsupported("20: not worked", () -> hall.undo(0));
        hall.work(0);
        hall.work(3);
        columns("20: before", hall, 2, 0, 1, 3, 4, 5, 7, 6);
        hall.work(1);
        columns("20: between", hall, 2, 0, 4, 5, 1, 3, 7, 6);
        hall.work(2);
        columns("20: then", hall, 2, 0, 4, 5, 1, 3, 6, 7);
        Check.is("20: undo", hall.undo(1), 2);
        columns("20: undone", hall, 2, 0, 1, 3, 4, 5, 7, 6);
        over("20: undone", hall, 8, "12", "20", "76");
        Check.is("20: used", hall.used(1), 3);
        Check.is("20: used", hall.used(4), 2);
        Check.is("20: worn", hall.worn(1), 2);
        Check.is("20: worn", hall.worn(6), 1);
        Check.is("20: worn", hall.worn(0), 0);
        Check.unsupported("20: again", () -> hall.undo(1));
        Check.is("20: work again", hall.work(1), 3);
        Check.is("20: undo the first", hall.undo(0), 2);
        columns("20: all but the last", hall, 0, 1, 2, 3, 4, 5, 7, 6);
        Check.is("20: undo the last", hall.undo(3), 1);
        columns("20: all", hall, 0, 1, 2, 3, 4, 5, 6, 7);
        Check.outOfBounds("20: pin 4", () -> hall.undo(4));
        for (int outside : OUTSIDE) {
            Check.outOfBounds("20: pin " + outside, () -> hall.undo(outside));
        }
    }

    private static void promise20UndoIsHeldByColumns() {
        Lacehall hall = hung(3, "c");
        hall.hang(9);
        hall.pin(0, 0, 0);
        hall.pin(1, 1, 0);
        hall.work(0);
        hall.hang(3);
        hall.end(9);
        Check.is("20: hung and ended elsewhere", hall.undo(0), 1);
        hall.work(0);
        hall.end(2);
        Check.is("20: ended beside it", hall.undo(0), 1);
        hall.work(0);
        hall.hang(2);
        hall.work(1);
        Check.unsupported("20: hung since it was worked, under one behind", () -> hall.undo(0));
        Check.is("20: hung before that one was worked", hall.undo(1), 1);
        Check.is("20: hung since, under none of these", hall.undo(0), 1);
        hall.work(0);
        hall.end(1);
        Check.unsupported("20: ended in the second column", () -> hall.undo(0));
        hall.hang(1);
        Check.unsupported("20: hung in the second column", () -> hall.undo(0));
        Lacehall first = hung(2, "c");
        first.pin(0, 0, 0);
        first.work(0);
        first.end(0);
        Check.unsupported("20: ended in the first column", () -> first.undo(0));
        Check.is("20: it stays worked", first.isWorked(0), true);
        Check.is("20: not worn", first.worn(1), 0);
    }

    private static void promise20UndoIsHeldBySewings() {
        Lacehall hall = hung(6, "c");
        hall.pin(1, 0, 0);
        hall.pin(2, 1, 0);
        hall.pin(4, 0, 0);
        hall.work(0);
        hall.sew(0, 0);
        Check.unsupported("20: sewn to it from beside", () -> hall.undo(0));
        hall.work(1);
        Check.is("20: sewn before it was worked", hall.undo(1), 1);
        hall.work(1);
        hall.sew(4, 1);
        Check.unsupported("20: sewn to it from behind", () -> hall.undo(1));
        Check.unsupported("20: sewn to one behind", () -> hall.undo(0));
        hall.work(2);
        Check.is("20: sewn in its column before", hall.undo(2), 1);
        hall.work(2);
        hall.sew(4, 1);
        Check.unsupported("20: sewn in its column since", () -> hall.undo(2));
        Lacehall beside = hung(6, "c");
        beside.pin(1, 0, 0);
        beside.pin(4, 0, 0);
        beside.work(0);
        beside.work(1);
        beside.sew(3, 0);
        Check.is("20: sewn to another one, under none of these", beside.undo(1), 1);
        Check.unsupported("20: sewn to it", () -> beside.undo(0));
    }

    private static void promise20UndoOfWhatCameBehind() {
        Lacehall hall = hung(6, "c");
        hall.pin(0, 0, 0);
        hall.pin(1, 5, 0);
        hall.pin(2, 7, 0);
        hall.pin(2, 3, 0);
        hall.pin(4, 0, 0);
        hall.pin(3, 9, 0);
        int[] order = {0, 3, 4, 1, 2, 5};
        for (int pin : order) {
            hall.work(pin);
        }
        Check.is("20: a chain", hall.undo(0), 4);
        boolean[] due = {false, false, false, true, true, false};
        for (int pin = 0; pin < due.length; pin++) {
            Check.is("20: worked " + pin, hall.isWorked(pin), due[pin]);
        }
        Check.is("20: one alone", hall.undo(4), 1);
        Check.is("20: the other one", hall.undo(3), 1);
        columns("20: all", hall, 0, 1, 2, 3, 4, 5, 6, 7, 8, 9, 10, 11);
        Check.is("20: sound", hall.isSound(), true);
    }

    private static void promise21Sew() {
        Lacehall hall = hung(9, "c");
        hall.pin(3, 0, 0);
        Check.unsupported("21: not worked", () -> hall.sew(3, 0));
        hall.work(0);
        Check.unsupported("21: too far ahead", () -> hall.sew(1, 0));
        Check.is("21: one ahead", hall.sew(2, 0), 1);
        Check.is("21: its column", hall.sew(3, 0), 2);
        Check.is("21: the next one", hall.sew(4, 0), 3);
        Check.is("21: the second one", hall.sew(5, 0), 4);
        Check.unsupported("21: too far behind", () -> hall.sew(6, 0));
        int[] due = {0, 0, 0, 0, 3, 3, 5, 6, 6, 5, 3, 3, 0, 0};
        for (int thread = 0; thread < due.length; thread++) {
            Check.is("21: used by " + thread, hall.used(thread), due[thread]);
        }
        hall.end(5);
        Check.unsupported("21: no pair", () -> hall.sew(5, 0));
        Check.is("21: again", hall.sew(2, 0), 5);
        hall.pin(8, 0, 0);
        Check.unsupported("21: another one not worked", () -> hall.sew(8, 1));
        hall.hang(9);
        hall.work(1);
        Check.is("21: the last column", hall.sew(9, 1), 6);
        Check.outOfBounds("21: column 10", () -> hall.sew(10, 1));
        Check.outOfBounds("21: column -1", () -> hall.sew(-1, 0));
        Check.outOfBounds("21: pin 2", () -> hall.sew(0, 2));
        for (int outside : OUTSIDE) {
            Check.outOfBounds("21: column " + outside, () -> hall.sew(outside, 0));
            Check.outOfBounds("21: pin " + outside, () -> hall.sew(0, outside));
        }
    }

    private static void promise21SewLength() {
        Lacehall hall = hung(2, "c");
        hall.pin(0, 0, 0);
        hall.work(0);
        for (int i = 1; i <= 32; i++) {
            Check.is("21: sewn", hall.sew(0, 0), i);
        }
        Check.is("21: used", hall.used(0), 98);
        Check.is("21: used", hall.used(2), 99);
        Check.unsupported("21: left 2 and 1", () -> hall.sew(0, 0));
        hall.wind(0, 1);
        Check.unsupported("21: the right thread", () -> hall.sew(0, 0));
        hall.wind(2, 2);
        Check.is("21: just enough", hall.sew(0, 0), 33);
        hall.wind(2, 50);
        Check.unsupported("21: the left thread", () -> hall.sew(0, 0));
        Check.is("21: the other pair", hall.sew(1, 0), 34);
        Check.is("21: sound", hall.isSound(), true);
    }

    private static void promise22Orders() {
        Lacehall hall = hung(10, "c");
        Check.is("22: none", hall.orders(), 1L);
        long[] due = {1, 2, 6, 24, 120, 720 / 2, 5040 / 2 / 2, 40320 / 2 / 2 / 2};
        for (int i = 0; i < 8; i++) {
            hall.pin(i % 5 * 2, i / 5, 0);
            Check.is("22: orders of " + (i + 1), hall.orders(), due[i]);
        }
        hall.work(0);
        Check.is("22: worked pins count as well", hall.orders(), due[7]);
        for (int i = 8; i < 12; i++) {
            hall.pin(i % 5 * 2, i / 5, 0);
        }
        // 12! by 3! for each of two columns and 2! for each of three.
        Check.is("22: twelve pins", hall.orders(), 479001600L / 36 / 8);
        Lacehall chain = withStitches("c");
        for (int i = 0; i < 12; i++) {
            chain.pin(i % 2, 20 - i, 0);
            Check.is("22: a chain", chain.orders(), 1L);
        }
        Lacehall bow = withStitches("c");
        bow.pin(1, 5, 0);
        bow.pin(0, 9, 0);
        bow.pin(2, 9, 0);
        Check.is("22: two behind one", bow.orders(), 2L);
        bow.pin(1, 4, 0);
        Check.is("22: and one ahead", bow.orders(), 2L);
        bow.pin(4, 0, 0);
        Check.is("22: and one apart", bow.orders(), 10L);
    }

    private static void order(String what, Lacehall hall, int... due) {
        for (int i = 0; i < due.length; i++) {
            Check.is(what + " at " + i, hall.orderAt(i), due[i]);
        }
        Check.outOfBounds(what + " at the end", () -> hall.orderAt(due.length));
        Check.outOfBounds(what + " ahead of it", () -> hall.orderAt(-1));
        for (int outside : OUTSIDE) {
            Check.outOfBounds(what + " at " + outside, () -> hall.orderAt(outside));
        }
    }

    private static void promise23OrderAt() {
        Lacehall hall = hung(10, "c");
        order("23: none", hall);
        hall.pin(0, 5, 0);
        hall.pin(1, 3, 0);
        hall.pin(4, 9, 0);
        hall.pin(2, 1, 0);
        hall.pin(7, 0, 0);
        hall.pin(5, 0, 0);
        order("23: order", hall, 3, 1, 0, 4, 5, 2);
        hall.work(4);
        order("23: worked pins count as well", hall, 3, 1, 0, 4, 5, 2);
        Lacehall free = withStitches("c");
        for (int i = 0; i < 5; i++) {
            free.pin(8 - 2 * i, 9 - i, 0);
        }
        order("23: free ones", free, 0, 1, 2, 3, 4);
    }

    private static void promise24ColourAt() {
        Lacehall hall = hung(2, "cl", "c");
        hall.pin(0, 0, 0);
        hall.pin(0, 1, 1);
        for (int thread = 0; thread < 4; thread++) {
            hall.setColour(thread, 4 + thread);
        }
        Check.unsupported("24: not worked", () -> hall.colourAt(0, 0));
        hall.work(0);
        hall.work(1);
        int[] first = {6, 4, 5, 7};
        int[] second = {6, 5, 4, 7};
        for (int place = 0; place < 4; place++) {
            Check.is("24: out of the first", hall.colourAt(0, place), first[place]);
            Check.is("24: out of the second", hall.colourAt(1, place), second[place]);
        }
        hall.setColour(1, 9);
        Check.is("24: the colour that it has now", hall.colourAt(0, 2), 9);
        hall.end(0);
        hall.end(1);
        hall.setColour(2, 1);
        Check.is("24: of an ended thread", hall.colourAt(0, 0), 1);
        Check.illegalArgument("24: place 4", () -> hall.colourAt(0, 4));
        Check.illegalArgument("24: place -1", () -> hall.colourAt(0, -1));
        Check.outOfBounds("24: pin and place", () -> hall.colourAt(2, 4));
        hall.pin(5, 0, 0);
        Check.illegalArgument("24: place of one not worked", () -> hall.colourAt(2, 4));
        for (int outside : OUTSIDE) {
            Check.outOfBounds("24: pin " + outside, () -> hall.colourAt(outside, 0));
            Check.illegalArgument("24: place " + outside, () -> hall.colourAt(0, outside));
        }
    }

    private static void promise25ClosesBehind() {
        Lacehall hall = withStitches("ctc", "c", "l", "tt", "t", "cl", "clr");
        int[][] due = {{2, 0, 0, 4}, {2, 1, 0, 4}, {2, 2, 0, 4}, {2, 3, 0, 2}, {2, 5, 0, 6}, {2, 6, 0, 8},
            {3, 3, 3, 2}, {3, 0, 4, 8}, {3, 0, 0, 6}, {3, 3, 0, 4}, {4, 3, 0, 4}, {4, 0, 3, 4}, {4, 1, 1, 4},
            {4, 0, 0, 8}, {3, 2, 2, 4}};
        for (int[] ground : due) {
            Check.is("25: closesBehind(" + ground[0] + ", " + ground[1] + ", " + ground[2] + ")",
                    hall.closesBehind(ground[0], ground[1], ground[2]), ground[3]);
        }
        Check.illegalArgument("25: one pair", () -> hall.closesBehind(1, 0, 0));
        Check.illegalArgument("25: five pairs", () -> hall.closesBehind(5, 0, 0));
        Check.illegalArgument("25: pairs and stitch", () -> hall.closesBehind(5, 9, 0));
        Check.outOfBounds("25: stitch", () -> hall.closesBehind(2, 7, 0));
        Check.outOfBounds("25: other", () -> hall.closesBehind(2, 0, 7));
        for (int outside : OUTSIDE) {
            Check.illegalArgument("25: pairs " + outside, () -> hall.closesBehind(outside, 0, 0));
            Check.outOfBounds("25: stitch " + outside, () -> hall.closesBehind(3, outside, 0));
            Check.outOfBounds("25: other " + outside, () -> hall.closesBehind(2, 0, outside));
        }
    }

    private static void promise26Minutes() {
        Lacehall hall = hung(10, "ccc", "cc", "c", "cccccccc", "t");
        for (int workers = 1; workers <= 4; workers++) {
            Check.is("26: without pins", hall.minutes(workers), 0);
        }
        hall.pin(0, 0, 0);
        hall.pin(2, 0, 1);
        hall.pin(4, 0, 1);
        hall.pin(6, 0, 2);
        int[] apart = {8, 4, 3, 3};
        for (int workers = 1; workers <= 4; workers++) {
            Check.is("26: apart", hall.minutes(workers), apart[workers - 1]);
        }
        hall.work(0);
        Check.is("26: as if none was worked", hall.minutes(1), 8);
        hall.pin(1, 1, 3);
        int[] joined = {16, 12, 11, 11};
        for (int workers = 1; workers <= 4; workers++) {
            Check.is("26: joined", hall.minutes(workers), joined[workers - 1]);
        }
        hall.pin(8, 0, 4);
        Check.is("26: t is one letter", hall.minutes(1), 17);
        // The lowest pin is taken first, though the long one should be.
        Lacehall greedy = withStitches("c", "cccc");
        greedy.pin(0, 0, 0);
        greedy.pin(2, 0, 0);
        greedy.pin(4, 0, 0);
        greedy.pin(6, 0, 1);
        Check.is("26: lowest first", greedy.minutes(2), 5);
        Lacehall late = withStitches("cc", "ccc", "c");
        late.pin(0, 9, 0);
        late.pin(1, 5, 1);
        late.pin(4, 5, 2);
        Check.is("26: waits for one ahead", late.minutes(2), 5);
        Check.is("26: waits for one ahead", late.minutes(1), 6);
        Check.illegalArgument("26: none", () -> late.minutes(0));
        Check.illegalArgument("26: five", () -> late.minutes(5));
        for (int outside : OUTSIDE) {
            Check.illegalArgument("26: workers " + outside, () -> late.minutes(outside));
        }
        Lacehall longest = withStitches("cccccccc");
        for (int i = 0; i < 12; i++) {
            longest.pin(0, i, 0);
        }
        for (int workers = 1; workers <= 4; workers++) {
            Check.is("26: the longest", longest.minutes(workers), 96);
        }
    }

    private static void promise27AllCrossings() {
        Lacehall hall = hung(4, "ctc", "tttttttt");
        hall.pin(0, 0, 0);
        hall.pin(2, 0, 1);
        hall.pin(1, 1, 0);
        Check.is("27: none", hall.allCrossings(), 0L);
        hall.work(1);
        Check.is("27: crossings", hall.allCrossings(), 16L);
        hall.work(0);
        hall.work(2);
        Check.is("27: crossings", hall.allCrossings(), 24L);
        hall.sew(0, 0);
        Check.is("27: sewing is no crossing", hall.allCrossings(), 24L);
        hall.undo(2);
        Check.is("27: undone", hall.allCrossings(), 20L);
        hall.end(3);
        Check.is("27: ended threads stay in the lace", hall.allCrossings(), 20L);
    }

    private static void promise28WorkedShare() {
        Lacehall hall = hung(4, "c");
        Check.arithmetic("28: no pins", hall::workedShare);
        hall.pin(0, 0, 0);
        Check.is("28: none worked", hall.workedShare(), 0.0f);
        hall.work(0);
        Check.is("28: all worked", hall.workedShare(), 1.0f);
        hall.pin(2, 0, 0);
        hall.pin(1, 1, 0);
        Check.is("28: one of three", hall.workedShare(), 1.0f / 3.0f);
        hall.work(1);
        Check.is("28: two of three", hall.workedShare(), 2.0f / 3.0f);
        hall.undo(0);
        Check.is("28: one undone", hall.workedShare(), 1.0f / 3.0f);
    }

    private static void promise29MeanUsed() {
        Lacehall hall = withStitches("c", "ctc");
        Check.arithmetic("29: no threads", hall::meanUsed);
        hall.hang(0);
        Check.is("29: none used", hall.meanUsed(), 0.0);
        hall.hang(1);
        hall.hang(2);
        hall.pin(0, 0, 0);
        hall.work(0);
        Check.is("29: c", hall.meanUsed(), 10.0 / 6.0);
        hall.sew(2, 0);
        Check.is("29: and a sewing", hall.meanUsed(), 16.0 / 6.0);
        hall.end(0);
        Check.is("29: ended threads count", hall.meanUsed(), 16.0 / 6.0);
        hall.hang(0);
        Check.is("29: new threads count", hall.meanUsed(), 2.0);
    }

    private static void promise30IsSound() {
        Lacehall hall = new Lacehall();
        Check.is("30: a new one", hall.isSound(), true);
        stitchOf(hall, "ctcl");
        for (int column = 0; column < 6; column++) {
            hall.hang(column);
        }
        Check.is("30: pairs alone", hall.isSound(), true);
        int[][] spots = {{0, 0}, {2, 0}, {4, 0}, {1, 1}, {3, 1}, {0, 2}, {2, 2}, {4, 2}};
        for (int[] spot : spots) {
            hall.pin(spot[0], spot[1], 0);
        }
        for (int pin = 0; pin < spots.length; pin++) {
            hall.work(pin);
            Check.is("30: worked", hall.isSound(), true);
            hall.sew(spots[pin][0], pin);
            Check.is("30: sewn", hall.isSound(), true);
        }
        hall.end(5);
        hall.hang(5);
        hall.end(0);
        Check.is("30: ended and hung", hall.isSound(), true);
        hall.pin(4, 9, 0);
        hall.work(8);
        Check.is("30: worked with new threads", hall.isSound(), true);
        hall.undo(8);
        Check.is("30: undone", hall.isSound(), true);
        columns("30: it changes nothing", hall, -1, -1, hall.threadIn(1, false), hall.threadIn(1, true));
        Check.is("30: it changes nothing", hall.isWorked(7), true);
    }

    private static void whatThrowsChangesNothing() {
        Lacehall hall = hung(3, "ctc");
        hall.pin(0, 0, 0);
        hall.pin(1, 1, 0);
        hall.work(0);
        hall.sew(1, 0);
        String before = told(hall);
        Check.unsupported("changes nothing: undo", () -> hall.undo(0));
        Check.unsupported("changes nothing: work", () -> hall.work(0));
        Check.unsupported("changes nothing: pin", () -> hall.pin(0, 1, 0));
        Check.unsupported("changes nothing: hang", () -> hall.hang(1));
        Check.unsupported("changes nothing: end", () -> hall.end(7));
        Check.unsupported("changes nothing: sew", () -> hall.sew(2, 1));
        Check.illegalArgument("changes nothing: wind", () -> hall.wind(0, 1000));
        Check.illegalArgument("changes nothing: setColour", () -> hall.setColour(0, 11));
        Check.unsupported("changes nothing: stitch", hall::stitch);
        Check.is("changes nothing", told(hall), before);
        Check.is("changes nothing: the next thread", hall.hang(7), 6);
        Check.is("changes nothing: the next pin", hall.pin(8, 1, 0), 2);
        Check.is("changes nothing: the next sewing", hall.sew(2, 0), 2);
        Check.is("changes nothing: the next length", hall.wind(0, 1), 101);
    }

    private static String told(Lacehall hall) {
        StringBuilder text = new StringBuilder();
        for (int thread = 0; thread < 6; thread++) {
            text.append(hall.used(thread)).append(' ').append(hall.worn(thread)).append(' ');
            text.append(hall.threadIn(thread, true)).append(' ');
            text.append(hall.over(thread, (thread + 1) % 6)).append(' ');
        }
        text.append(hall.isWorked(0)).append(hall.isWorked(1)).append(hall.orders());
        return text.append(hall.minutes(1)).append(hall.isSound()).toString();
    }
}
