import java.util.ArrayList;
import java.util.Arrays;
import java.util.HashMap;
import java.util.List;
import java.util.Map;
import java.util.Random;

/** areAlike against what braids make of the free group: each two short words, and each word by its places. */
public final class LacehallBraids {
    private static final int SHORT = 5;

    public static void main(String[] arguments) {
        compareShortWords();
        compareLongWords();
        compareShuffledWords();
        compareAllWords();
        Check.finish("LacehallBraids");
    }

    private static Lacehall hallOf(List<String> words) {
        Lacehall hall = new Lacehall();
        for (String word : words) {
            for (char letter : word.toCharArray()) {
                hall.letter(letter);
            }
            hall.stitch();
        }
        return hall;
    }

    private static void compare(String word, String other) {
        boolean due = NaiveHall.artin(word).equals(NaiveHall.artin(other));
        Lacehall hall = hallOf(List.of(word, other));
        Check.is("areAlike of " + word + " and " + other, hall.areAlike(0, 1), due);
        Check.is("areAlike of " + other + " and " + word, hall.areAlike(1, 0), due);
    }

    /** All words of up to five letters: each is like the first of its class, and no two firsts are alike. */
    private static void compareShortWords() {
        List<String> words = new ArrayList<>(List.of(""));
        for (int from = 0, length = 1; length <= SHORT; length++) {
            int to = words.size();
            for (; from < to; from++) {
                for (char letter : "clrt".toCharArray()) {
                    words.add(words.get(from) + letter);
                }
            }
        }
        Map<List<List<Integer>>, String> firsts = new HashMap<>();
        for (String word : words.subList(1, words.size())) {
            String first = firsts.putIfAbsent(NaiveHall.artin(word), word);
            if (first != null) {
                Check.is(word + " is like " + first, hallOf(List.of(first, word)).areAlike(0, 1), true);
            }
        }
        compareAllPairs(new ArrayList<>(firsts.values()));
    }

    /** Twelve words an object: six of one block and six of another one. */
    private static void compareAllPairs(List<String> firsts) {
        for (int i = 0; i < firsts.size(); i += 6) {
            for (int j = i; j < firsts.size(); j += 6) {
                List<String> block = new ArrayList<>(firsts.subList(i, Math.min(i + 6, firsts.size())));
                if (j > i) {
                    block.addAll(firsts.subList(j, Math.min(j + 6, firsts.size())));
                }
                Lacehall hall = hallOf(block);
                for (int one = 0; one < block.size(); one++) {
                    for (int two = 0; two < block.size(); two++) {
                        if (hall.areAlike(one, two) != (one == two)) {
                            Check.is(block.get(one) + " is like " + block.get(two), one != two, one == two);
                        }
                    }
                }
            }
        }
        Check.is("there are classes of words", firsts.size() > 300, true);
    }

    private static String randomWord(Random random, String letters, int length) {
        StringBuilder word = new StringBuilder();
        for (int i = 0; i < length; i++) {
            word.append(letters.charAt(random.nextInt(letters.length())));
        }
        return word.toString();
    }

    private static void compareLongWords() {
        Random random = new Random(1);
        for (int i = 0; i < 2000; i++) {
            int length = 5 + random.nextInt(4);
            String word = randomWord(random, i % 2 == 0 ? "ct" : "clrt", length);
            char[] changed = word.toCharArray();
            changed[random.nextInt(length)] = "clrt".charAt(random.nextInt(4));
            compare(word, new String(changed));
        }
    }

    /** Words made alike: l, r and t are mixed anew between one c and the next one. */
    private static void compareShuffledWords() {
        Random random = new Random(2);
        String[][] same = {{"t", "lr", "rl"}, {"lt", "tl", "llr", "rll", "lrl"}, {"rt", "tr", "rrl", "lrr"},
            {"l"}, {"r"}, {"tt", "tlr", "rtl"}, {"cc"}};
        for (int i = 0; i < 500; i++) {
            String[] one = same[random.nextInt(same.length)];
            String[] two = same[random.nextInt(same.length)];
            String word = one[random.nextInt(one.length)] + "c" + two[random.nextInt(two.length)];
            String other = one[random.nextInt(one.length)] + "c" + two[random.nextInt(two.length)];
            Check.is(word + " is like " + other, hallOf(List.of(word, other)).areAlike(0, 1), true);
        }
    }

    /** The same word with each t first, then each l, then each r, between one c and the next one. */
    private static String sorted(String word) {
        StringBuilder sorted = new StringBuilder();
        int[] times = new int[2];
        for (char letter : (word + "c").toCharArray()) {
            times[0] += letter == 'l' || letter == 't' ? 1 : 0;
            times[1] += letter == 'r' || letter == 't' ? 1 : 0;
            if (letter == 'c') {
                int both = Math.min(times[0], times[1]);
                sorted.append("t".repeat(both)).append("l".repeat(times[0] - both));
                sorted.append("r".repeat(times[1] - both)).append('c');
                times = new int[2];
            }
        }
        return sorted.substring(0, sorted.length() - 1);
    }

    /** Where the threads go, and how often each is above each other one: what is easily seen of a word. */
    private static String seen(String word) {
        int[] threads = {0, 1, 2, 3};
        int[] over = new int[16];
        for (char letter : word.replace("t", "lr").toCharArray()) {
            int above = letter == 'c' || letter == 'l' ? 1 : 3;
            int below = letter == 'l' ? 0 : 2;
            over[4 * threads[above] + threads[below]]++;
            int held = threads[above];
            threads[above] = threads[below];
            threads[below] = held;
        }
        return Arrays.toString(threads) + Arrays.toString(over);
    }

    /**
     * Each of the 87380 words is like what it is sorted to; and of the 13120 sorted ones each two of which the
     * same is seen are alike just if they make the same of the free group.
     */
    private static void compareAllWords() {
        Map<String, List<String>> sortedBySeen = new HashMap<>();
        List<String> words = new ArrayList<>(List.of(""));
        for (int i = 0; i < words.size(); i++) {
            String word = words.get(i);
            for (int j = 0; j < 4 && word.length() < 8; j++) {
                words.add(word + "clrt".charAt(j));
            }
            if (sorted(word).equals(word) && !word.isEmpty()) {
                sortedBySeen.computeIfAbsent(seen(word), key -> new ArrayList<>()).add(word);
            }
        }
        Check.is("the number of all words", words.size() - 1, 87380);
        for (int i = 1; i < words.size(); i += 6) {
            compareWithSorted(words.subList(i, Math.min(i + 6, words.size())));
        }
        for (List<String> same : sortedBySeen.values()) {
            for (int i = 0; i < same.size(); i++) {
                for (int j = 0; j < i; j++) {
                    compare(same.get(i), same.get(j));
                }
            }
        }
    }

    private static void compareWithSorted(List<String> words) {
        List<String> all = new ArrayList<>(words);
        for (String word : words) {
            all.add(sorted(word));
        }
        Lacehall hall = hallOf(all);
        for (int i = 0; i < words.size(); i++) {
            Check.is(words.get(i) + " is like " + sorted(words.get(i)), hall.areAlike(i, words.size() + i), true);
        }
    }
}
