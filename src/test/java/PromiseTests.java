/** Each promise of the document by itself: ordinary inputs, the edges that it names, wrong inputs. */
public final class PromiseTests {
    private static final int UNKNOWN = -1, OUTSIDE = -2, STATE = -3, ROOM = -4;
    private static final int[] NOT_NEAR = {Integer.MIN_VALUE, -1000, -5, 1002, 1 << 20, Integer.MAX_VALUE};

    private static int asked = 0;
    private static int wrong = 0;

    private static void due(String what, long got, long want) {
        asked++;
        if (got != want) {
            wrong++;
            System.out.println(what + " answered " + got + ", due is " + want);
        }
    }

    /** A new entry with the signs of this text. */
    private static int add(WordTrees x, String signs) {
        int entry = x.entry();
        for (int i = 0; i < signs.length(); i++) {
            due("letter of " + signs, x.letter(entry, signs.charAt(i)), i + 1);
        }
        return entry;
    }

    /** What is read from now on: these signs at places 0, 1, .., all with one cost. */
    private static void read(WordTrees x, String signs, int cost) {
        x.clear();
        for (int place = 0; place < signs.length(); place++) {
            due("cost of " + signs, x.cost(place, signs.charAt(place), cost), place + 1);
        }
    }

    /** Pairs of a number and a sum, in this order, and none behind them. */
    private static void told(String what, WordTrees x, long... pairs) {
        int count = pairs.length / 2;
        for (int i = 0; i < count; i++) {
            due(what + ": word(" + i + ")", x.word(i), pairs[2 * i]);
            due(what + ": sum(" + i + ")", x.sum(i), pairs[2 * i + 1]);
        }
        due(what + ": word behind the last", x.word(count), UNKNOWN);
        due(what + ": sum behind the last", x.sum(count), UNKNOWN);
    }

    private static void found(String what, WordTrees x, long... pairs) {
        due(what + ": find", x.find(1000), pairs.length / 2);
        told(what, x, pairs);
    }

    /** The sum of the only entry that has these signs, when the text was read at one cost. */
    private static void sumOf(String entry, String read, int cost, long want) {
        WordTrees x = new WordTrees();
        add(x, entry);
        read(x, read, cost);
        found("'" + entry + "' of '" + read + "' at " + cost, x, 1, want);
    }

    private static void constants() {
        due("UNKNOWN", WordTrees.UNKNOWN, UNKNOWN);
        due("OUTSIDE", WordTrees.OUTSIDE, OUTSIDE);
        due("STATE", WordTrees.STATE, STATE);
        due("ROOM", WordTrees.ROOM, ROOM);
    }

    private static void promise1NewObject() {
        WordTrees x = new WordTrees();
        due("new: word", x.word(0), UNKNOWN);
        due("new: sum", x.sum(0), UNKNOWN);
        due("new: find", x.find(1000), 0);
        due("new: plain", x.plain(1000), 0);
        due("new: clear", x.clear(), 0);
        due("new: drop", x.drop(1), UNKNOWN);
        due("new: letter", x.letter(1, 'a'), UNKNOWN);
        due("new: abbreviation", x.abbreviation(1, 2), UNKNOWN);
        due("new: within", x.within(0, 1), UNKNOWN);
        due("new: all", x.within(-1, 0), 0);

        WordTrees y = new WordTrees();
        add(y, "a");
        found("new: no group is looked at", y, 1, 30);

        WordTrees z = new WordTrees();
        due("new: objects share nothing", z.entry(), 1);
        z.cost(4, 'a', 0);
        due("new: objects share no reading", y.clear(), 0);
        for (int group = 0; group < 8; group++) {
            due("new: group", new WordTrees().within(group, 0), 0);
        }
    }

    private static void promise2Entry() {
        WordTrees x = new WordTrees();
        for (int number = 1; number <= 200; number++) {
            due("entry", x.entry(), number);
            if (number % 50 == 0) {
                due("entry: drop", x.drop(number), number - number / 50);
            }
        }
        due("entry: dropped ones count too", x.entry(), ROOM);
        due("entry: a drop makes no room", x.drop(1), 195);
        due("entry: again", x.entry(), ROOM);
        due("entry: refused, none more", x.within(-1, 0), 195);
        due("entry: 201 is none", x.letter(201, 'a'), UNKNOWN);
        due("entry: 199 is one", x.letter(199, 'a'), 1);
        due("entry: 198 is without signs", x.letter(198, 'a'), 1);
        due("entry: all but five are found", x.find(1000), 195);
        due("entry: the last", x.word(194), 199);
        due("entry: the last's sum", x.sum(194), 30);
    }

    private static void promise3Letter() {
        WordTrees x = new WordTrees();
        x.entry();
        due("letter: first sign", x.letter(1, 33), 1);
        due("letter: last sign", x.letter(1, 126), 2);
        for (int c : new int[] {32, 127, 0, -1, 33 + 256, Integer.MIN_VALUE, Integer.MAX_VALUE}) {
            due("letter: no sign " + c, x.letter(1, c), OUTSIDE);
            due("letter: no entry before no sign", x.letter(2, c), UNKNOWN);
        }
        for (int entry : new int[] {0, -1, 2, 200, 201, Integer.MIN_VALUE, Integer.MAX_VALUE}) {
            due("letter: no entry " + entry, x.letter(entry, 'a'), UNKNOWN);
        }
        due("letter: the refused changed nothing", x.letter(1, 'a'), 3);
        read(x, "!~a", 0);
        found("letter: in their order", x, 1, 0);
        for (int i = 4; i <= 20; i++) {
            due("letter: up to 20", x.letter(1, 'b'), i);
        }
        due("letter: no room", x.letter(1, 'b'), ROOM);
        due("letter: no sign before no room", x.letter(1, 127), OUTSIDE);
        due("letter: a second entry has its own", add(x, "ab"), 2);
        read(x, "!~abbbbbbbbbbbbbbbbb", 0);
        found("letter: 20 signs", x, 1, 0);
        x.drop(1);
        due("letter: dropped before no sign", x.letter(1, 127), UNKNOWN);
        due("letter: dropped before no room", x.letter(1, 'a'), UNKNOWN);
    }

    private static void promise4Drop() {
        WordTrees x = new WordTrees();
        add(x, "a");
        add(x, "b");
        add(x, "c");
        add(x, "d");
        x.abbreviation(1, 3);
        x.abbreviation(2, 3);
        read(x, "a", 7);
        found("drop: before", x, 3, 7, 4, 55);
        due("drop", x.drop(3), 3);
        told("drop: what was found stays", x, 3, 7, 4, 55);
        found("drop: abbreviations are none any more", x, 1, 7, 2, 55, 4, 55);
        due("drop: twice", x.drop(3), UNKNOWN);
        for (int entry : new int[] {0, -1, 5, 200, 201, Integer.MIN_VALUE, Integer.MAX_VALUE}) {
            due("drop: no entry " + entry, x.drop(entry), UNKNOWN);
        }
        due("drop: the refused changed nothing", x.within(-1, 0), 3);
        due("drop: one that was freed may have some", x.abbreviation(4, 1), 1);
        found("drop: before an abbreviation's", x, 1, 7, 2, 55);
        due("drop: an abbreviation", x.drop(4), 2);
        due("drop: the dropped one is not counted", x.abbreviation(2, 1), 1);
        due("drop: and again", x.drop(2), 1);
        add(x, "e");
        due("drop: one whose abbreviations are dropped has none", x.abbreviation(1, 5), 1);
        found("drop: found as the other", x, 5, 7);
    }

    private static void droppedAbbreviationGivesNoSum() {
        WordTrees x = new WordTrees();
        add(x, "abc");
        add(x, "z");
        x.abbreviation(2, 1);
        read(x, "z", 0);
        found("drop: the abbreviation's sum", x, 1, 0);
        x.drop(2);
        found("drop: its own sum", x, 1, 115);
        add(x, "z");
        x.abbreviation(3, 1);
        x.drop(1);
        found("drop: the last entry is an abbreviation no more", x, 3, 0);
    }

    private static void all200AreFound() {
        WordTrees x = new WordTrees();
        for (int number = 1; number <= 200; number++) {
            x.entry();
        }
        x.letter(1, 'a');
        due("200: find", x.find(1000), 200);
        due("200: the first", x.word(0), 2);
        due("200: the last but one", x.word(198), 200);
        due("200: the last", x.word(199), 1);
        due("200: its sum", x.sum(199), 30);
        due("200: none behind", x.word(200), UNKNOWN);
        due("200: no sum behind", x.sum(200), UNKNOWN);
        due("200: find 199", x.find(199), 199);
        due("200: 199 and no more", x.word(199), UNKNOWN);
        x.drop(1);
        due("200: plain", x.plain(200), 199);
        due("200: plain's last", x.word(198), 200);
        due("200: an abbreviation of the last", x.abbreviation(2, 200), 1);
        due("200: within the last", x.within(7, 200), 1);
        due("200: drop the last", x.drop(200), 198);
        due("200: free again", x.abbreviation(3, 2), 1);
    }

    private static void promise5Cost() {
        WordTrees x = new WordTrees();
        add(x, "a");
        due("cost: with places before it", x.cost(2, 'a', 10), 3);
        due("cost: an earlier place", x.cost(0, 'a', 20), 3);
        found("cost: places without signs", x, 1, 60);
        due("cost: the latest told counts, less", x.cost(2, 'a', 3), 3);
        found("cost: less", x, 1, 53);
        due("cost: the latest told counts, more", x.cost(2, 'a', 30), 3);
        found("cost: more", x, 1, 70);
        due("cost: another sign there", x.cost(0, 'b', 0), 3);
        found("cost: another sign changes none", x, 1, 70);
        due("cost: least", x.cost(0, 33, 0), 3);
        due("cost: most", x.cost(0, 126, 1000), 3);
        for (int place : new int[] {-1, 20, 21, Integer.MIN_VALUE, Integer.MAX_VALUE}) {
            due("cost: no place " + place, x.cost(place, 'a', 0), OUTSIDE);
        }
        for (int c : new int[] {32, 127, 0, -1, Integer.MIN_VALUE, Integer.MAX_VALUE}) {
            due("cost: no sign " + c, x.cost(3, c, 0), OUTSIDE);
        }
        for (int cost : new int[] {-1, 1001, Integer.MIN_VALUE, Integer.MAX_VALUE}) {
            due("cost: no cost " + cost, x.cost(0, 'a', cost), OUTSIDE);
            due("cost: no cost at a new place", x.cost(5, 'a', cost), OUTSIDE);
        }
        found("cost: the refused changed nothing", x, 1, 70);
        due("cost: the last place", x.cost(19, 'a', 0), 20);
        due("cost: all places", x.clear(), 20);
    }

    private static void promise6Clear() {
        WordTrees x = new WordTrees();
        add(x, "ab");
        read(x, "ab", 4);
        found("clear: before", x, 1, 8);
        due("clear", x.clear(), 2);
        told("clear: what was found stays", x, 1, 8);
        due("clear: twice", x.clear(), 0);
        found("clear: nothing is read", x, 1, 60);
        due("clear: told anew", x.cost(1, 'b', 9), 2);
        found("clear: the old costs are gone", x, 1, 64);
        due("clear: and places are", x.plain(1), 0);
        x.cost(19, 'q', 1);
        due("clear: 20 places", x.clear(), 20);
    }

    private static void sumsByEachWay() {
        sumOf("", "", 0, 0);
        sumOf("a", "", 0, 30);
        sumOf("", "a", 0, 25);
        sumOf("a", "a", 0, 0);
        sumOf("a", "a", 54, 54);
        sumOf("a", "a", 55, 55);
        sumOf("a", "a", 56, 55);
        sumOf("a", "a", 1000, 55);
        sumOf("a", "b", 0, 55);
        sumOf("ab", "ba", 1, 56);
        sumOf("abc", "ac", 5, 40);
        sumOf("ac", "abc", 5, 35);
        sumOf("abc", "abc", 7, 21);
        sumOf("aab", "ab", 2, 34);
        sumOf("ab", "aab", 2, 29);
        sumOf("abcd", "xbcx", 3, 116);
        sumOf("kitten", "sitting", 0, 135);
        sumOf("aaaaaaaaaaaaa", "", 0, 390);
        sumOf("", "aaaaaaaaaaaaaaaa", 0, 400);
        sumOf("aaaaaaaaaaaaaaaaaaaa", "aaaaaaaaaaaaaaaaaaaa", 20, 400);
    }

    private static void promise7Find() {
        WordTrees x = new WordTrees();
        add(x, "b");
        add(x, "ab");
        add(x, "a");
        add(x, "a");
        add(x, "aaaaaaaaaaaaaa");
        read(x, "a", 0);
        found("find: by sums, then numbers", x, 3, 0, 4, 0, 2, 30, 1, 55, 5, 390);
        due("find: two", x.find(2), 2);
        told("find: two", x, 3, 0, 4, 0);
        for (int k : new int[] {0, -1, 1001, Integer.MIN_VALUE, Integer.MAX_VALUE}) {
            due("find: " + k, x.find(k), OUTSIDE);
        }
        told("find: the refused changed nothing", x, 3, 0, 4, 0);
        due("find: one", x.find(1), 1);
        told("find: one", x, 3, 0);
        due("find: 1000", x.find(1000), 5);
        x.letter(5, 'a');
        found("find: a sum above 400", x, 3, 0, 4, 0, 2, 30, 1, 55);
        x.drop(3);
        due("find: as many as there are", x.find(3), 3);
        told("find: as many as there are", x, 4, 0, 2, 30, 1, 55);
    }

    private static void sumOf400AtMost() {
        WordTrees x = new WordTrees();
        add(x, "");
        add(x, "a");
        x.cost(15, 'a', 25);
        found("find: a sum of 400", x, 1, 400, 2, 400);
        x.cost(15, 'a', 26);
        found("find: a sum of 401", x, 1, 400);
        x.cost(16, 'b', 0);
        found("find: none", x);
    }

    private static void promises8And9WordAndSum() {
        WordTrees x = new WordTrees();
        add(x, "a");
        add(x, "ab");
        read(x, "a", 3);
        found("word", x, 1, 3, 2, 33);
        for (int i : NOT_NEAR) {
            due("word: " + i, x.word(i), UNKNOWN);
            due("sum: " + i, x.sum(i), UNKNOWN);
        }
        for (int i : new int[] {-1, 2, 199, 200, 201}) {
            due("word: " + i, x.word(i), UNKNOWN);
            due("sum: " + i, x.sum(i), UNKNOWN);
        }
        x.letter(1, 'q');
        x.cost(0, 'a', 9);
        x.within(3, 0);
        x.abbreviation(1, 2);
        told("word: stays until the next find", x, 1, 3, 2, 33);
        found("word: the latest found", x);
        x.within(-1, 0);
        found("word: and again", x, 2, 39);
        due("word: plain finds too", x.plain(5), 0);
        told("word: none", x);
    }

    private static void promise10Within() {
        WordTrees x = new WordTrees();
        add(x, "a");
        add(x, "b");
        add(x, "c");
        due("within: first", x.within(0, 1), 1);
        due("within: second", x.within(0, 3), 2);
        due("within: once more", x.within(0, 3), 2);
        due("within: the last group", x.within(7, 3), 1);
        for (int group : new int[] {-1, -2, 8, 32, 39, Integer.MIN_VALUE, Integer.MAX_VALUE}) {
            due("within: no group " + group, x.within(group, 1), OUTSIDE);
            due("within: no entry before no group", x.within(group, 4), UNKNOWN);
        }
        for (int group : new int[] {-2, 8, 32, 39, Integer.MIN_VALUE, Integer.MAX_VALUE}) {
            due("within: none to look at " + group, x.within(group, 0), OUTSIDE);
        }
        for (int entry : new int[] {-1, 4, 200, 201, Integer.MIN_VALUE, Integer.MAX_VALUE}) {
            due("within: no entry " + entry, x.within(0, entry), UNKNOWN);
        }
        found("within: none is looked at yet", x, 1, 30, 2, 30, 3, 30);
        due("within: look at 0", x.within(0, 0), 2);
        due("within: refused", x.within(8, 0), OUTSIDE);
        found("within: 0, it stays in others", x, 1, 30, 3, 30);
        due("within: look at 7", x.within(7, 0), 1);
        found("within: 7", x, 3, 30);
        due("within: while 7 is looked at", x.within(1, 2), 1);
        found("within: 7 still", x, 3, 30);
        due("within: look at 1", x.within(1, 0), 1);
        due("within: look at 6", x.within(6, 0), 0);
        found("within: 6", x);
        due("within: look at all", x.within(-1, 0), 3);
        found("within: all", x, 1, 30, 2, 30, 3, 30);
        due("within: drop", x.drop(3), 2);
        due("within: a dropped one", x.within(0, 3), UNKNOWN);
        due("within: a dropped one before no group", x.within(9, 3), UNKNOWN);
        due("within: the dropped is not counted", x.within(0, 1), 1);
        due("within: nor when looked at", x.within(0, 0), 1);
        due("within: nor in 7", x.within(7, 0), 0);
        due("within: nor of all", x.within(-1, 0), 2);
    }

    private static void groupsAndAbbreviations() {
        WordTrees x = new WordTrees();
        add(x, "etcetera");
        add(x, "etc");
        x.abbreviation(2, 1);
        read(x, "etc", 0);
        due("within: an abbreviation is in it", x.within(2, 2), 1);
        due("within: and counted", x.within(2, 0), 1);
        due("within: and counted of all", x.within(-1, 0), 2);
        x.within(2, 0);
        found("within: its full form is not in it", x);
        due("within: the full form", x.within(3, 1), 1);
        x.within(3, 0);
        found("within: by an abbreviation of no such group", x, 1, 0);
    }

    private static void promise11Abbreviation() {
        WordTrees x = new WordTrees();
        for (String signs : new String[] {"a", "b", "c", "d", "e"}) {
            add(x, signs);
        }
        due("abbreviation", x.abbreviation(1, 3), 1);
        due("abbreviation: a second", x.abbreviation(2, 3), 2);
        due("abbreviation: the same again", x.abbreviation(1, 3), 2);
        due("abbreviation: of itself", x.abbreviation(4, 4), STATE);
        due("abbreviation: of an abbreviation", x.abbreviation(4, 1), STATE);
        due("abbreviation: has some", x.abbreviation(3, 4), STATE);
        due("abbreviation: has one another's", x.abbreviation(3, 1), STATE);
        for (int entry : new int[] {0, -1, 6, 200, 201, Integer.MIN_VALUE, Integer.MAX_VALUE}) {
            due("abbreviation: no entry " + entry, x.abbreviation(entry, 4), UNKNOWN);
            due("abbreviation: no other " + entry, x.abbreviation(3, entry), UNKNOWN);
            due("abbreviation: neither", x.abbreviation(entry, entry), UNKNOWN);
        }
        read(x, "a", 0);
        found("abbreviation: the least sum", x, 3, 0, 4, 55, 5, 55);
        read(x, "c", 0);
        found("abbreviation: its own sum is the least", x, 3, 0, 4, 55, 5, 55);
        due("abbreviation: of another one alone", x.abbreviation(1, 4), 1);
        read(x, "a", 0);
        found("abbreviation: of another one alone", x, 4, 0, 3, 55, 5, 55);
        due("abbreviation: one is left", x.abbreviation(2, 3), 1);
        due("abbreviation: none is left", x.abbreviation(2, 5), 1);
        due("abbreviation: of what has none any more", x.abbreviation(3, 5), 2);
        found("abbreviation: found as that", x, 4, 0, 5, 55);
        x.drop(5);
        due("abbreviation: of a dropped one", x.abbreviation(2, 5), UNKNOWN);
        due("abbreviation: a dropped one", x.abbreviation(5, 2), UNKNOWN);
        due("abbreviation: a dropped one of itself", x.abbreviation(5, 5), UNKNOWN);
        found("abbreviation: none any more", x, 4, 0, 2, 55, 3, 55);
    }

    private static void abbreviationBringsSumUnder400() {
        WordTrees x = new WordTrees();
        add(x, "zzzzzzzzzzzzzzzzzzzz");
        add(x, "z");
        x.abbreviation(2, 1);
        read(x, "z", 11);
        found("abbreviation: its sum is under 400", x, 1, 11);
    }

    private static void promise12Plain() {
        WordTrees x = new WordTrees();
        add(x, "ab");
        add(x, "xb");
        add(x, "a");
        add(x, "abc");
        add(x, "ab");
        add(x, "ba");
        add(x, "");
        due("plain: nothing is read", x.plain(9), 1);
        told("plain: nothing is read", x, 7, 0);
        read(x, "ab", 20);
        x.cost(0, 'x', 1);
        due("plain", x.plain(9), 3);
        told("plain: by numbers", x, 1, 40, 2, 21, 5, 40);
        due("plain: how many, more than k", x.plain(2), 3);
        told("plain: the first two", x, 1, 40, 2, 21);
        due("plain: 1", x.plain(1), 3);
        told("plain: the first", x, 1, 40);
        for (int k : new int[] {0, -1, 1001, Integer.MIN_VALUE, Integer.MAX_VALUE}) {
            due("plain: " + k, x.plain(k), OUTSIDE);
        }
        told("plain: the refused changed nothing", x, 1, 40);
        due("plain: 1000", x.plain(1000), 3);
        x.cost(0, 'a', 1000);
        due("plain: whichever was told", x.plain(9), 3);
        told("plain: whichever was told", x, 1, 75, 2, 21, 5, 75);
        x.drop(1);
        x.within(4, 2);
        x.within(4, 3);
        due("plain: dropped", x.plain(9), 2);
        x.within(4, 0);
        due("plain: within the group", x.plain(9), 1);
        told("plain: within the group", x, 2, 21);
        x.within(-1, 0);
        x.abbreviation(2, 5);
        due("plain: no abbreviations of others", x.plain(9), 1);
        told("plain: sums as ever", x, 5, 21);
        x.cost(3, 'a', 0);
        due("plain: a place without signs", x.plain(9), 0);
        told("plain: none", x);
    }

    private static void plainByOwnSigns() {
        WordTrees x = new WordTrees();
        add(x, "abcd");
        add(x, "ab");
        x.abbreviation(2, 1);
        read(x, "ab", 0);
        due("plain: not by its abbreviation's signs", x.plain(9), 0);
        found("plain: found, but not plain", x, 1, 0);

        WordTrees y = new WordTrees();
        add(y, "aaaaaaaaaaaaaaaaaaaa");
        add(y, "b");
        read(y, "aaaaaaaaaaaaaaaaaaaa", 1000);
        due("plain: whatever their sums", y.plain(9), 1);
        told("plain: whatever their sums", y, 1, 1100);
        due("plain: while none is found", y.find(9), 0);
        y.cost(4, '~', 0);
        due("plain: one more sign at a place", y.plain(9), 1);

        WordTrees z = new WordTrees();
        add(z, "!~");
        read(z, "!~", 0);
        due("plain: the first and the last sign", z.plain(9), 1);
        z.clear();
        z.cost(1, '~', 0);
        due("plain: a sign that was not told", z.plain(9), 0);
    }

    public static void main(String[] args) {
        constants();
        promise1NewObject();
        promise2Entry();
        promise3Letter();
        promise4Drop();
        droppedAbbreviationGivesNoSum();
        all200AreFound();
        promise5Cost();
        promise6Clear();
        sumsByEachWay();
        promise7Find();
        sumOf400AtMost();
        promises8And9WordAndSum();
        promise10Within();
        groupsAndAbbreviations();
        promise11Abbreviation();
        abbreviationBringsSumUnder400();
        promise12Plain();
        plainByOwnSigns();
        System.out.println(asked + " answers asked for, " + wrong + " not as due");
        if (wrong != 0) {
            System.exit(1);
        }
    }
}
