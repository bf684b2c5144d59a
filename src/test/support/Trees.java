import java.util.ArrayList;
import java.util.List;

/** A WordTrees each of whose calls comes with the answer that is due, as the last argument. */
final class Trees {
    static final int UNKNOWN = -1, OUTSIDE = -2, STATE = -3, ROOM = -4;
    /** Far from all that the document names, and what small types or shifts would take for 0, 1, .. */
    static final int[] FAR = {
        Integer.MIN_VALUE, Integer.MIN_VALUE + 1, -(1 << 16), -1001, -256, 1 << 16, (1 << 16) + 1,
        1 << 30, Integer.MAX_VALUE - 1, Integer.MAX_VALUE};
    /** What no object has ever made. */
    static final int[] NO_ENTRIES = join(FAR, -2, -1, 201, 202, 257);
    static final int[] NO_SIGNS = join(FAR, -1, 0, 1, 31, 32, 127, 128, 33 + 256, 'a' + 256, 'a' + (1 << 16));
    static final int[] NO_GROUPS = join(FAR, -32, -8, -2, 8, 9, 31, 32, 33, 39, 64);
    static final int[] NO_PLACES = join(FAR, -20, -2, -1, 20, 21, 32, 256);
    static final int[] NO_COSTS = join(FAR, -1000, -2, -1, 1001, 1002);
    static final int[] NO_KS = join(FAR, -2, -1, 0, 1001, 1002);

    /** The document promises nothing for later calls. */
    private static final int MOST_CALLS = 512;

    private final WordTrees real = new WordTrees();
    private final List<String> answers = new ArrayList<>();

    static int[] join(int[] first, int... more) {
        int[] all = new int[first.length + more.length];
        System.arraycopy(first, 0, all, 0, first.length);
        System.arraycopy(more, 0, all, first.length, more.length);
        return all;
    }

    void entry(long due) {
        due("entry()", real.entry(), due);
    }

    void letter(int entry, int c, long due) {
        due("letter(" + entry + ", " + c + ")", real.letter(entry, c), due);
    }

    void drop(int entry, long due) {
        due("drop(" + entry + ")", real.drop(entry), due);
    }

    void cost(int place, int c, int cost, long due) {
        due("cost(" + place + ", " + c + ", " + cost + ")", real.cost(place, c, cost), due);
    }

    void clear(long due) {
        due("clear()", real.clear(), due);
    }

    void find(int k, long due) {
        due("find(" + k + ")", real.find(k), due);
    }

    void word(int i, long due) {
        due("word(" + i + ")", real.word(i), due);
    }

    void sum(int i, long due) {
        due("sum(" + i + ")", real.sum(i), due);
    }

    void within(int group, int entry, long due) {
        due("within(" + group + ", " + entry + ")", real.within(group, entry), due);
    }

    void abbreviation(int entry, int other, long due) {
        due("abbreviation(" + entry + ", " + other + ")", real.abbreviation(entry, other), due);
    }

    void plain(int k, long due) {
        due("plain(" + k + ")", real.plain(k), due);
    }

    int callCount() {
        return answers.size();
    }

    /** A new entry with the signs of each text. */
    Trees with(String... words) {
        for (String signs : words) {
            int number = keep("entry()", real.entry());
            for (int i = 0; i < signs.length(); i++) {
                letter(number, signs.charAt(i), i + 1);
            }
        }
        return this;
    }

    /** So many new entries, without signs, on an object that has none. */
    Trees withEntries(int count) {
        for (int number = 1; number <= count; number++) {
            entry(number);
        }
        return this;
    }

    /** Only this is read from now on: its signs at places 0, 1, .., all at one cost. */
    Trees reading(String signs, int cost) {
        keep("clear()", real.clear());
        for (int place = 0; place < signs.length(); place++) {
            cost(place, signs.charAt(place), cost, place + 1);
        }
        return this;
    }

    /** Pairs of a number and its sum are told, in this order, and none behind or before them. */
    void tells(long... pairs) {
        int count = pairs.length / 2;
        for (int i = 0; i < count; i++) {
            word(i, pairs[2 * i]);
            sum(i, pairs[2 * i + 1]);
        }
        word(count, UNKNOWN);
        sum(count, UNKNOWN);
        word(-1, UNKNOWN);
        sum(-1, UNKNOWN);
    }

    void finds(long... pairs) {
        find(1000, pairs.length / 2);
        tells(pairs);
    }

    void findsPlain(long... pairs) {
        plain(1000, pairs.length / 2);
        tells(pairs);
    }

    /** All that a few more than the first entries answer to any call; it leaves nothing as it was. */
    List<String> allAnswers(int entries) {
        int from = answers.size();
        keepTold(entries);
        keep("find", real.find(1000));
        keepTold(entries);
        keep("plain", real.plain(1000));
        keepTold(entries);
        for (int group = -1; group < 8; group++) {
            keep("within(" + group + ", 0)", real.within(group, 0));
            keep("find", real.find(1000));
            for (int i = 0; i < entries; i++) {
                keep("word(" + i + ")", real.word(i));
            }
        }
        keep("within(-1, 0)", real.within(-1, 0));
        keep("find", real.find(1000));
        keepTold(entries);
        keep("clear()", real.clear());
        for (int entry = 1; entry <= entries + 1; entry++) {
            keep("letter(" + entry + ", 'q')", real.letter(entry, 'q'));
        }
        for (int entry = 1; entry <= entries + 1; entry++) {
            for (int other = 1; other <= entries + 1; other++) {
                keep("abbreviation(" + entry + ", " + other + ")", real.abbreviation(entry, other));
            }
        }
        keep("entry()", real.entry());
        for (int entry = 1; entry <= entries + 1; entry++) {
            keep("drop(" + entry + ")", real.drop(entry));
        }
        return answers.subList(from, answers.size());
    }

    private void keepTold(int count) {
        for (int i = -1; i <= count; i++) {
            keep("word(" + i + ")", real.word(i));
            keep("sum(" + i + ")", real.sum(i));
        }
    }

    private int keep(String call, long got) {
        answers.add(call + " -> " + got);
        if (answers.size() == MOST_CALLS + 1) {
            Sentences.complain("the test makes more than " + MOST_CALLS + " calls of one object");
        }
        return (int) got;
    }

    private void due(String call, long got, long due) {
        keep(call, got);
        Sentences.due(call + ", the object's call " + answers.size() + ",", got, due);
    }
}
