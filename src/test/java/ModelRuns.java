import java.util.ArrayList;
import java.util.HashMap;
import java.util.HashSet;
import java.util.List;
import java.util.Map;
import java.util.Random;
import java.util.Set;

/** Runs of mixed calls, right and wrong ones, on the class and on a plain model of the document side by side. */
public final class ModelRuns {
    private static final int RUNS = 3000;
    private static final int CALLS = 512;

    /** The document's terms taken one by one, with the sum as its recursion and no row reused. */
    private static final class Model {
        private final Map<Integer, String> signs = new HashMap<>();
        private final Map<Integer, Integer> fullForms = new HashMap<>();
        private final List<Set<Integer>> groups = new ArrayList<>();
        private final Map<List<Integer>, Integer> told = new HashMap<>();
        private final List<long[]> found = new ArrayList<>();
        private int made = 0;
        private int places = 0;
        private int looked = -1;

        Model() {
            for (int group = 0; group < 8; group++) {
                groups.add(new HashSet<>());
            }
        }

        int entry() {
            if (made == 200) {
                return -4;
            }
            made++;
            signs.put(made, "");
            return made;
        }

        int letter(int entry, int c) {
            if (!signs.containsKey(entry)) {
                return -1;
            }
            if (c < 33 || c > 126) {
                return -2;
            }
            if (signs.get(entry).length() == 20) {
                return -4;
            }
            signs.put(entry, signs.get(entry) + (char) c);
            return signs.get(entry).length();
        }

        int drop(int entry) {
            if (signs.remove(entry) == null) {
                return -1;
            }
            fullForms.remove(entry);
            fullForms.values().removeIf(full -> full == entry);
            groups.forEach(group -> group.remove(entry));
            return signs.size();
        }

        int cost(int place, int c, int cost) {
            if (place < 0 || place > 19 || c < 33 || c > 126 || cost < 0 || cost > 1000) {
                return -2;
            }
            told.put(List.of(place, c), cost);
            places = Math.max(places, place + 1);
            return places;
        }

        int clear() {
            int were = places;
            places = 0;
            told.clear();
            return were;
        }

        int find(int k) {
            if (k < 1 || k > 1000) {
                return -2;
            }
            List<long[]> all = new ArrayList<>();
            for (int entry : mayBeFound()) {
                if (sumOf(entry) <= 400) {
                    all.add(new long[] {entry, sumOf(entry)});
                }
            }
            all.sort((a, b) -> a[1] != b[1] ? Long.compare(a[1], b[1]) : Long.compare(a[0], b[0]));
            keep(all, k);
            return found.size();
        }

        int plain(int k) {
            if (k < 1 || k > 1000) {
                return -2;
            }
            List<long[]> all = new ArrayList<>();
            for (int entry : mayBeFound()) {
                if (isPlain(signs.get(entry))) {
                    all.add(new long[] {entry, sumOf(entry)});
                }
            }
            keep(all, k);
            return all.size();
        }

        long told(int i, int column) {
            return i < 0 || i >= found.size() ? -1 : found.get(i)[column];
        }

        int within(int group, int entry) {
            if (entry != 0 && !signs.containsKey(entry)) {
                return -1;
            }
            if (group > 7 || group < (entry == 0 ? -1 : 0)) {
                return -2;
            }
            if (entry == 0) {
                looked = group;
            } else {
                groups.get(group).add(entry);
            }
            return group == -1 ? signs.size() : groups.get(group).size();
        }

        int abbreviation(int entry, int other) {
            if (!signs.containsKey(entry) || !signs.containsKey(other)) {
                return -1;
            }
            if (entry == other || fullForms.containsKey(other) || fullForms.containsValue(entry)) {
                return -3;
            }
            fullForms.put(entry, other);
            return (int) fullForms.values().stream().filter(full -> full == other).count();
        }

        private void keep(List<long[]> all, int k) {
            found.clear();
            found.addAll(all.subList(0, Math.min(k, all.size())));
        }

        private List<Integer> mayBeFound() {
            List<Integer> may = new ArrayList<>();
            for (int entry = 1; entry <= made; entry++) {
                boolean inGroup = looked == -1 || groups.get(looked).contains(entry);
                if (signs.containsKey(entry) && !fullForms.containsKey(entry) && inGroup) {
                    may.add(entry);
                }
            }
            return may;
        }

        private boolean isPlain(String word) {
            if (word.length() != places) {
                return false;
            }
            for (int place = 0; place < places; place++) {
                if (!told.containsKey(List.of(place, (int) word.charAt(place)))) {
                    return false;
                }
            }
            return true;
        }

        private long sumOf(int entry) {
            long least = ownSum(signs.get(entry));
            for (Map.Entry<Integer, Integer> pair : fullForms.entrySet()) {
                if (pair.getValue() == entry) {
                    least = Math.min(least, ownSum(signs.get(pair.getKey())));
                }
            }
            return least;
        }

        private long ownSum(String word) {
            return ownSum(word, 0, 0, new Long[word.length() + 1][places + 1]);
        }

        private long ownSum(String word, int sign, int place, Long[][] known) {
            if (sign == word.length()) {
                return 25L * (places - place);
            }
            if (place == places) {
                return 30L * (word.length() - sign);
            }
            if (known[sign][place] == null) {
                long asSign = told.getOrDefault(List.of(place, (int) word.charAt(sign)), 60)
                        + ownSum(word, sign + 1, place + 1, known);
                long lacks = 30 + ownSum(word, sign + 1, place, known);
                long needless = 25 + ownSum(word, sign, place + 1, known);
                known[sign][place] = Math.min(asSign, Math.min(lacks, needless));
            }
            return known[sign][place];
        }
    }

    private final Random random;
    private final WordTrees real = new WordTrees();
    private final Model model = new Model();
    private final List<String> calls = new ArrayList<>();
    /** Some runs have few entries with many signs, some have many entries. */
    private final int entriesAimedAt;
    private final int signKinds;
    private final int placesAimedAt;

    private ModelRuns(int seed) {
        random = new Random(seed);
        entriesAimedAt = seed % 20 == 0 ? 300 : 1 + random.nextInt(12);
        signKinds = 1 + random.nextInt(5);
        placesAimedAt = 1 + random.nextInt(20);
    }

    /** Mostly a number of the range, seldom one just outside it or far off. */
    private int about(int first, int last) {
        int way = random.nextInt(40);
        if (way == 0) {
            return first - 1;
        }
        if (way == 1) {
            return last + 1;
        }
        if (way == 2) {
            return random.nextInt();
        }
        return first + random.nextInt(last - first + 1);
    }

    private int someEntry() {
        return about(1, Math.max(1, model.made));
    }

    private int someSign() {
        return random.nextInt(30) == 0 ? about(33, 126) : 'a' + random.nextInt(signKinds);
    }

    private int someCost() {
        return random.nextInt(4) == 0 ? about(0, 1000) : random.nextInt(70);
    }

    private int someK() {
        return random.nextInt(3) == 0 ? about(1, 1000) : 1 + random.nextInt(5);
    }

    private boolean same(String call, long got, long want) {
        calls.add(call + " -> " + got);
        if (got == want) {
            return true;
        }
        System.out.println(String.join("\n", calls) + "\n  due is " + want);
        return false;
    }

    private boolean oneCall() {
        int way = random.nextInt(100);
        if (way < 5 || model.made < entriesAimedAt && way < 30) {
            return same("entry()", real.entry(), model.entry());
        }
        if (way < 45) {
            int e = someEntry(), c = someSign();
            return same("letter(" + e + ", " + c + ")", real.letter(e, c), model.letter(e, c));
        }
        if (way < 62) {
            int p = about(0, placesAimedAt - 1), c = someSign(), cost = someCost();
            return same("cost(" + p + ", " + c + ", " + cost + ")", real.cost(p, c, cost), model.cost(p, c, cost));
        }
        if (way < 64) {
            return same("clear()", real.clear(), model.clear());
        }
        if (way < 67) {
            int e = someEntry();
            return same("drop(" + e + ")", real.drop(e), model.drop(e));
        }
        if (way < 72) {
            int e = someEntry(), other = someEntry();
            return same("abbreviation(" + e + ", " + other + ")",
                    real.abbreviation(e, other), model.abbreviation(e, other));
        }
        if (way < 78) {
            int group = about(0, 7), e = random.nextInt(3) == 0 ? 0 : someEntry();
            return same("within(" + group + ", " + e + ")", real.within(group, e), model.within(group, e));
        }
        if (way < 80) {
            return same("within(-1, 0)", real.within(-1, 0), model.within(-1, 0));
        }
        if (way < 86) {
            int k = someK();
            return same("find(" + k + ")", real.find(k), model.find(k));
        }
        if (way < 90) {
            int k = someK();
            return same("plain(" + k + ")", real.plain(k), model.plain(k));
        }
        int i = about(0, Math.max(0, model.found.size() - 1));
        return way < 95
                ? same("word(" + i + ")", real.word(i), model.told(i, 0))
                : same("sum(" + i + ")", real.sum(i), model.told(i, 1));
    }

    private boolean agrees() {
        for (int call = 0; call < CALLS; call++) {
            if (!oneCall()) {
                return false;
            }
        }
        return true;
    }

    public static void main(String[] args) {
        for (int seed = 0; seed < RUNS; seed++) {
            if (!new ModelRuns(seed).agrees()) {
                System.out.println("run " + seed + " differs from the model");
                System.exit(1);
            }
        }
        System.out.println(RUNS + " runs as the model has them");
    }
}
