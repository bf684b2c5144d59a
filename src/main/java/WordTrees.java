import java.util.Arrays;

/** Words that are read with doubts: the entries that can be made of what was read at the least sums. */
public final class WordTrees {
    public static final int UNKNOWN = -1, OUTSIDE = -2, STATE = -3, ROOM = -4;

    private static final int MOST_ENTRIES = 200;
    private static final int MOST_SIGNS = 20;
    private static final int MOST_PLACES = 20;
    private static final int FIRST_SIGN = 33;
    private static final int LAST_SIGN = 126;
    private static final int MOST_COST = 1000;
    private static final int MOST_ASKED = 1000;
    private static final int MOST_SUM = 400;
    private static final int GROUPS = 8;
    private static final int NONE = -1;

    private static final int UNTOLD_SIGN_COST = 60;
    private static final int LACKING_PLACE_COST = 30;
    private static final int NEEDLESS_PLACE_COST = 25;

    /** Numbers start at 1, so that row 0 stays empty. */
    private final Entry[] entries;
    private int entryCount;
    private final Reading reading;
    private final Hits hits;
    private int groupLookedAt;

    public WordTrees() {
        entries = new Entry[MOST_ENTRIES + 1];
        entryCount = 0;
        reading = new Reading();
        hits = new Hits();
        groupLookedAt = NONE;
    }

    public int entry() {
        if (entryCount >= MOST_ENTRIES) {
            return ROOM;
        }
        entryCount++;
        entries[entryCount] = new Entry();
        return entryCount;
    }

    public int letter(int entry, int c) {
        Entry lengthened = living(entry);
        if (lengthened == null) {
            return UNKNOWN;
        }
        if (!isSign(c)) {
            return OUTSIDE;
        }
        return lengthened.append(c) ? lengthened.length : ROOM;
    }

    public int drop(int entry) {
        Entry dropped = living(entry);
        if (dropped == null) {
            return UNKNOWN;
        }
        dropped.isDropped = true;
        dropped.standsFor = null;
        for (int number = 1; number <= entryCount; number++) {
            Entry other = living(number);
            if (other != null && other.standsFor == dropped) {
                other.standsFor = null;
            }
        }
        return countWithin(NONE);
    }

    public int cost(int place, int c, int cost) {
        if (place < 0 || place >= MOST_PLACES || !isSign(c) || cost < 0 || cost > MOST_COST) {
            return OUTSIDE;
        }
        reading.tell(place, c, cost);
        return reading.places;
    }

    public int clear() {
        int places = reading.places;
        reading.forget();
        return places;
    }

    public int find(int k) {
        if (!mayBeAsked(k)) {
            return OUTSIDE;
        }
        reckonSums();
        hits.forget();
        for (int number = 1; number <= entryCount; number++) {
            Entry entry = living(number);
            if (entry != null && mayBeFound(entry) && entry.leastSum <= MOST_SUM) {
                hits.addBySum(number, entry.leastSum);
            }
        }
        hits.keepFirst(k);
        return hits.count;
    }

    public int word(int i) {
        return hits.has(i) ? hits.numbers[i] : UNKNOWN;
    }

    public long sum(int i) {
        return hits.has(i) ? hits.sums[i] : UNKNOWN;
    }

    public int within(int group, int entry) {
        if (entry == 0) {
            return lookAt(group);
        }
        Entry member = living(entry);
        if (member == null) {
            return UNKNOWN;
        }
        if (!isGroup(group)) {
            return OUTSIDE;
        }
        member.join(group);
        return countWithin(group);
    }

    public int abbreviation(int entry, int other) {
        Entry shortForm = living(entry);
        Entry fullForm = living(other);
        if (shortForm == null || fullForm == null) {
            return UNKNOWN;
        }
        if (shortForm == fullForm || fullForm.standsFor != null || countAbbreviations(shortForm) > 0) {
            return STATE;
        }
        shortForm.standsFor = fullForm;
        return countAbbreviations(fullForm);
    }

    public int plain(int k) {
        if (!mayBeAsked(k)) {
            return OUTSIDE;
        }
        reckonSums();
        hits.forget();
        for (int number = 1; number <= entryCount; number++) {
            Entry entry = living(number);
            if (entry != null && mayBeFound(entry) && reading.spells(entry)) {
                hits.addLast(number, entry.leastSum);
            }
        }
        // The answer counts those behind the first k too: only what word tells is cut.
        int all = hits.count;
        hits.keepFirst(k);
        return all;
    }

    private static boolean isSign(int c) {
        return c >= FIRST_SIGN && c <= LAST_SIGN;
    }

    private static boolean isGroup(int group) {
        return group >= 0 && group < GROUPS;
    }

    private static boolean mayBeAsked(int k) {
        return k >= 1 && k <= MOST_ASKED;
    }

    /** The entry with this number, or null where a call is to answer UNKNOWN. */
    private Entry living(int number) {
        if (number < 1 || number > entryCount || number >= entries.length) {
            return null;
        }
        Entry entry = entries[number];
        return entry == null || entry.isDropped ? null : entry;
    }

    private boolean mayBeFound(Entry entry) {
        return entry.standsFor == null && entry.isWithin(groupLookedAt);
    }

    private int lookAt(int group) {
        if (group != NONE && !isGroup(group)) {
            return OUTSIDE;
        }
        groupLookedAt = group;
        return countWithin(group);
    }

    private int countWithin(int group) {
        int count = 0;
        for (int number = 1; number <= entryCount; number++) {
            Entry entry = living(number);
            if (entry != null && entry.isWithin(group)) {
                count++;
            }
        }
        return count;
    }

    private int countAbbreviations(Entry fullForm) {
        int count = 0;
        for (int number = 1; number <= entryCount; number++) {
            Entry entry = living(number);
            if (entry != null && entry.standsFor == fullForm) {
                count++;
            }
        }
        return count;
    }

    /** Two passes, as an abbreviation's number may be lower or higher than that of its full form. */
    private void reckonSums() {
        for (int number = 1; number <= entryCount; number++) {
            Entry entry = living(number);
            if (entry != null) {
                entry.leastSum = reading.leastCostOf(entry);
            }
        }
        for (int number = 1; number <= entryCount; number++) {
            Entry entry = living(number);
            if (entry != null && entry.standsFor != null) {
                entry.standsFor.leastSum = Math.min(entry.standsFor.leastSum, entry.leastSum);
            }
        }
    }

    private static final class Entry {
        final int[] signs;
        int length;
        int groupBits;
        boolean isDropped;
        /** The entry that this one is an abbreviation of; null if it is none. */
        Entry standsFor;
        /** Kept here only from reckoning to listing: it is stale after any other call. */
        int leastSum;

        Entry() {
            signs = new int[MOST_SIGNS];
            length = 0;
            groupBits = 0;
            isDropped = false;
            standsFor = null;
            leastSum = 0;
        }

        boolean append(int sign) {
            if (length >= signs.length) {
                return false;
            }
            signs[length] = sign;
            length++;
            return true;
        }

        void join(int group) {
            groupBits |= 1 << group;
        }

        boolean isWithin(int group) {
            return group == NONE || (groupBits & 1 << group) != 0;
        }
    }

    /** What was read: for each place the costs of the signs that were told. */
    private static final class Reading {
        private static final int SIGN_KINDS = LAST_SIGN - FIRST_SIGN + 1;
        private static final int UNTOLD = -1;

        private final int[] costs;
        /** Made once, as every sum of every call needs it. */
        private final int[] leastCosts;
        int places;

        Reading() {
            costs = new int[MOST_PLACES * SIGN_KINDS];
            Arrays.fill(costs, UNTOLD);
            leastCosts = new int[MOST_PLACES + 1];
            places = 0;
        }

        void tell(int place, int sign, int cost) {
            int index = indexOf(place, sign);
            if (index < 0) {
                return;
            }
            costs[index] = cost;
            places = Math.max(places, place + 1);
        }

        void forget() {
            Arrays.fill(costs, UNTOLD);
            places = 0;
        }

        /** Whether the entry is just one told sign of each place. */
        boolean spells(Entry entry) {
            if (entry.length != places) {
                return false;
            }
            for (int place = 0; place < places; place++) {
                if (told(place, entry.signs[place]) == UNTOLD) {
                    return false;
                }
            }
            return true;
        }

        /** After each sign, leastCosts[p] is that of making the signs so far of the first p places. */
        int leastCostOf(Entry entry) {
            for (int place = 0; place <= places; place++) {
                leastCosts[place] = place * NEEDLESS_PLACE_COST;
            }
            for (int i = 0; i < entry.length; i++) {
                addSign(entry.signs[i]);
            }
            return leastCosts[places];
        }

        private void addSign(int sign) {
            int beforeBoth = leastCosts[0];
            leastCosts[0] = beforeBoth + LACKING_PLACE_COST;
            for (int place = 0; place < places; place++) {
                int readAsSign = beforeBoth + costAs(place, sign);
                int signLacksPlace = leastCosts[place + 1] + LACKING_PLACE_COST;
                int placeIsNeedless = leastCosts[place] + NEEDLESS_PLACE_COST;
                beforeBoth = leastCosts[place + 1];
                leastCosts[place + 1] = Math.min(readAsSign, Math.min(signLacksPlace, placeIsNeedless));
            }
        }

        private int costAs(int place, int sign) {
            int cost = told(place, sign);
            return cost == UNTOLD ? UNTOLD_SIGN_COST : cost;
        }

        private int told(int place, int sign) {
            int index = indexOf(place, sign);
            return index < 0 ? UNTOLD : costs[index];
        }

        private static int indexOf(int place, int sign) {
            if (place < 0 || place >= MOST_PLACES || !isSign(sign)) {
                return -1;
            }
            return place * SIGN_KINDS + sign - FIRST_SIGN;
        }
    }

    /** What was found latest; it stays as it was, whatever becomes of the entries and the reading. */
    private static final class Hits {
        final int[] numbers;
        final int[] sums;
        int count;

        Hits() {
            numbers = new int[MOST_ENTRIES];
            sums = new int[MOST_ENTRIES];
            count = 0;
        }

        void forget() {
            count = 0;
        }

        boolean has(int i) {
            return i >= 0 && i < count && i < numbers.length;
        }

        void addLast(int number, int sum) {
            if (count < numbers.length) {
                numbers[count] = number;
                sums[count] = sum;
                count++;
            }
        }

        /** Behind equal sums: entries come by numbers, and so they stay in that order. */
        void addBySum(int number, int sum) {
            if (count >= numbers.length) {
                return;
            }
            int at = count;
            while (at > 0 && sums[at - 1] > sum) {
                numbers[at] = numbers[at - 1];
                sums[at] = sums[at - 1];
                at--;
            }
            numbers[at] = number;
            sums[at] = sum;
            count++;
        }

        void keepFirst(int k) {
            count = Math.min(count, k);
        }
    }
}
