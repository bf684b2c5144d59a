import java.io.IOException;

/** The sentences of promises 1 to 6 (a new object, entry, letter, drop, cost, clear), each with a test of its own. */
public final class Promises1To6Tests {
    private static final int UNKNOWN = -1, OUTSIDE = -2, STATE = -3, ROOM = -4;
    private static final String P1 = "Promise 1: A new object";
    private static final String P2 = "Promise 2: entry";
    private static final String P3 = "Promise 3: letter";
    private static final String P4 = "Promise 4: drop";
    private static final String P5 = "Promise 5: cost";
    private static final String P6 = "Promise 6: clear";

    // Promise 1

    @Sentence(of = P1, says = "No entries")
    static void aNewObjectHasNoEntries() {
        Trees x = new Trees();
        x.within(-1, 0, 0);
        x.find(1000, 0);
        x.plain(1000, 0);
        for (int entry : Trees.join(Trees.NO_ENTRIES, 0, 1, 2, 200)) {
            x.letter(entry, 'a', UNKNOWN);
            x.drop(entry, UNKNOWN);
            x.abbreviation(entry, entry, UNKNOWN);
        }
        x.abbreviation(1, 2, UNKNOWN);
        x.entry(1);
    }

    @Sentence(of = P1, says = "No entries")
    static void aNewObjectHasEmptyGroupsAndHasFoundNothing() {
        Trees x = new Trees();
        for (int group = 0; group < 8; group++) {
            x.within(group, 1, UNKNOWN);
            x.within(group, 0, 0);
        }
        x.word(0, UNKNOWN);
        x.sum(0, UNKNOWN);
        x.word(1, UNKNOWN);
        x.sum(1, UNKNOWN);
    }

    @Sentence(of = P1, says = "No entries")
    static void objectsShareNothing() {
        Trees full = new Trees().withEntries(200);
        full.letter(1, 'a', 1);
        full.within(3, 1, 1);
        full.within(3, 0, 1);
        full.cost(19, 'a', 0, 20);
        Trees x = new Trees();
        x.entry(1);
        x.within(3, 0, 0);
        x.within(-1, 0, 1);
        x.clear(0);
        x.letter(1, 'b', 1);
        full.clear(20);
        full.finds(1, 30);
        x.finds(1, 30);
    }

    @Sentence(of = P1, says = "nothing read;")
    static void aNewObjectHasNothingRead() {
        new Trees().clear(0);
        new Trees().with("").finds(1, 0);
        new Trees().with("a").finds(1, 30);
        Trees x = new Trees().with("!", "a", "~");
        x.cost(0, 'b', 0, 1);
        x.finds(1, 55, 2, 55, 3, 55);
    }

    @Sentence(of = P1, says = "no group is looked at.")
    static void aNewObjectLooksAtNoGroup() {
        Trees x = new Trees().withEntries(9);
        for (int group = 0; group < 8; group++) {
            x.within(group, group + 1, 1);
        }
        x.find(1000, 9);
        x.word(8, 9);
    }

    // Promise 2

    @Sentence(of = P2, says = "An entry more")
    static void anEntryMoreIsThere() {
        Trees x = new Trees();
        x.within(-1, 0, 0);
        x.entry(1);
        x.within(-1, 0, 1);
        x.find(9, 1);
        x.entry(2);
        x.within(-1, 0, 2);
        x.find(9, 2);
        x.drop(1, 1);
        x.entry(3);
        x.within(-1, 0, 2);
    }

    @Sentence(of = P2, says = "without signs:")
    static void aNewEntryHasNoSigns() {
        Trees x = new Trees().with("abc");
        x.entry(2);
        x.finds(2, 0, 1, 90);
        x.letter(2, 'z', 1);
        x.reading("z", 0);
        x.finds(2, 0, 1, 115);
        x.drop(2, 1);
        x.entry(3);
        x.letter(3, 'z', 1);
    }

    @Sentence(of = P2, says = "without signs:")
    static void aNewEntryIsInNoGroupAndNoAbbreviation() {
        Trees x = new Trees().withEntries(1);
        x.within(0, 1, 1);
        x.within(0, 0, 1);
        x.entry(2);
        x.finds(1, 0);
        x.abbreviation(1, 2, 1);
        x.entry(3);
        x.abbreviation(3, 2, 2);
    }

    @Sentence(of = P2, says = "its number;")
    static void numbersRunTo200() {
        Trees x = new Trees();
        for (int number = 1; number <= 200; number++) {
            x.entry(number);
            if (number % 50 == 0) {
                x.drop(number, number - number / 50);
            }
        }
        x.letter(199, 'a', 1);
        x.letter(200, 'a', UNKNOWN);
    }

    @Sentence(of = P2, says = "ROOM.")
    static void noRoomFor201() {
        Trees x = new Trees().withEntries(200);
        x.entry(ROOM);
        x.drop(100, 199);
        x.entry(ROOM);
        x.entry(ROOM);
    }

    @Sentence(of = P2, says = "ROOM.")
    static void aRefusedEntryChangesNothing() {
        Trees x = new Trees().withEntries(200);
        x.letter(200, 'a', 1);
        x.letter(1, 'b', 1);
        x.abbreviation(1, 2, 1);
        x.within(6, 200, 1);
        x.within(6, 2, 2);
        x.within(6, 0, 2);
        x.cost(0, 'a', 5, 1);
        x.finds(200, 5, 2, 25);
        x.entry(ROOM);
        x.tells(200, 5, 2, 25);
        x.finds(200, 5, 2, 25);
        x.within(-1, 0, 200);
        x.within(6, 0, 2);
        x.letter(201, 'a', UNKNOWN);
        x.letter(200, 'a', 2);
        x.abbreviation(1, 2, 1);
        x.find(1000, 2);
        x.clear(1);
        x.find(1000, 2);
        x.word(0, 2);
        x.drop(200, 199);
        x.drop(201, UNKNOWN);
    }

    // Promise 3

    @Sentence(of = P3, says = "A sign more at the end of an entry:")
    static void aSignComesAtTheEnd() {
        Trees x = new Trees().with("ab");
        x.reading("abc", 1);
        x.finds(1, 27);
        x.letter(1, 'c', 3);
        x.finds(1, 3);
        x.letter(1, 'a', 4);
        x.finds(1, 33);
        x.findsPlain();
        x.cost(3, 'a', 1, 4);
        x.findsPlain(1, 4);
    }

    @Sentence(of = P3, says = "A sign more at the end of an entry:")
    static void aSignComesToThatEntryAlone() {
        Trees x = new Trees().with("a", "a", "a");
        x.letter(2, 'b', 2);
        x.reading("ab", 0).finds(2, 0, 1, 25, 3, 25);
        x.letter(1, 'c', 2);
        x.letter(3, 'd', 2);
        x.letter(2, 'e', 3);
    }

    @Sentence(of = P3, says = "A sign more at the end of an entry:")
    static void theSameSignMayComeAgain() {
        Trees x = new Trees().withEntries(1);
        for (int count = 1; count <= 20; count++) {
            x.letter(1, 'a', count);
        }
        x.reading("aaaaaaaaaaaaaaaaaaaa", 1).finds(1, 20);
    }

    @Sentence(of = P3, says = "A sign more at the end of an entry:")
    static void anAbbreviationAndItsFullFormMayGrow() {
        Trees x = new Trees().with("a", "x");
        x.abbreviation(2, 1, 1);
        x.letter(2, 'y', 2);
        x.letter(1, 'b', 2);
        x.reading("xy", 0).finds(1, 0);
        x.reading("ab", 0).finds(1, 0);
    }

    @Sentence(of = P3, says = "how many it has;")
    static void lettersAreCountedTo20() {
        Trees x = new Trees().withEntries(2);
        for (int count = 1; count <= 20; count++) {
            x.letter(1, 32 + count, count);
        }
        x.letter(2, '~', 1);
    }

    @Sentence(of = P3, says = "UNKNOWN")
    static void noLetterForWhatIsNoEntry() {
        Trees x = new Trees().withEntries(2);
        x.drop(2, 1);
        for (int entry : Trees.join(Trees.NO_ENTRIES, 0, 2, 3, 200)) {
            x.letter(entry, 'a', UNKNOWN);
        }
        x.letter(1, 'a', 1);
    }

    @Sentence(of = P3, says = "UNKNOWN")
    static void noEntryComesBeforeNoSign() {
        Trees x = new Trees().with("abcdefghijklmnopqrst");
        for (int c : Trees.NO_SIGNS) {
            x.letter(2, c, UNKNOWN);
        }
        x.letter(0, 32, UNKNOWN);
        x.drop(1, 0);
        x.letter(1, 127, UNKNOWN);
        x.letter(1, 'a', UNKNOWN);
    }

    @Sentence(of = P3, says = "OUTSIDE")
    static void noLetterThatIsNoSign() {
        Trees x = new Trees().withEntries(1);
        for (int c : Trees.NO_SIGNS) {
            x.letter(1, c, OUTSIDE);
        }
        x.letter(1, 33, 1);
        x.letter(1, 126, 2);
        x.reading("!~", 0).finds(1, 0);
    }

    @Sentence(of = P3, says = "OUTSIDE")
    static void noSignComesBeforeNoRoom() {
        Trees x = new Trees().with("abcdefghijklmnopqrst");
        for (int c : Trees.NO_SIGNS) {
            x.letter(1, c, OUTSIDE);
        }
        x.letter(1, 33, ROOM);
        x.letter(1, 126, ROOM);
    }

    @Sentence(of = P3, says = "ROOM.")
    static void noRoomForThe21stSign() {
        Trees x = new Trees().with("abcdefghijklmnopqrs");
        x.letter(1, 't', 20);
        x.letter(1, 'u', ROOM);
        x.reading("abcdefghijklmnopqrst", 0);
        x.findsPlain(1, 0);
        x.reading("abcdefghijklmnopqrsu", 0);
        x.findsPlain();
        x.finds(1, 55);
        x.with("u");
        x.letter(2, 'v', 2);
    }

    @Sentence(of = P3, says = "UNKNOWN, OUTSIDE, ROOM.")
    static void refusedLettersChangeNothing() {
        Twins.changesNothing(x -> {
            x.letter(Twins.NEXT, 'a', UNKNOWN);
            x.letter(0, 'a', UNKNOWN);
            x.letter(Twins.DROPPED, 'a', UNKNOWN);
            x.letter(Integer.MIN_VALUE, 'a', UNKNOWN);
            x.letter(Integer.MAX_VALUE, 'a', UNKNOWN);
        });
        Twins.changesNothing(x -> {
            for (int entry : new int[] {Twins.PLAIN, Twins.SHORT_FORM, Twins.EMPTY, Twins.FULL}) {
                x.letter(entry, 32, OUTSIDE);
                x.letter(entry, 127, OUTSIDE);
                x.letter(entry, Integer.MIN_VALUE, OUTSIDE);
                x.letter(entry, Integer.MAX_VALUE, OUTSIDE);
            }
        });
        Twins.changesNothing(x -> x.letter(Twins.FULL, 'a', ROOM));
    }

    // Promise 4

    @Sentence(of = P4, says = "An entry is dropped;")
    static void aDroppedEntryIsGone() {
        Trees x = new Trees().with("a", "b", "c");
        x.within(1, 2, 1);
        x.drop(2, 2);
        x.finds(1, 30, 3, 30);
        x.reading("b", 0).findsPlain();
        x.within(1, 0, 0);
        x.letter(2, 'a', UNKNOWN);
    }

    @Sentence(of = P4, says = "what was its abbreviation is none any more:")
    static void itsAbbreviationsAreNoneAnyMore() {
        Trees x = new Trees().with("a", "b", "c", "d");
        x.abbreviation(1, 3, 1);
        x.abbreviation(4, 3, 2);
        x.finds(2, 30, 3, 30);
        x.drop(3, 3);
        x.finds(1, 30, 2, 30, 4, 30);
        x.abbreviation(2, 1, 1);
        x.abbreviation(4, 1, 2);
    }

    @Sentence(of = P4, says = "what was its abbreviation is none any more:")
    static void otherEntriesKeepTheirAbbreviations() {
        Trees x = new Trees().with("a", "b", "c", "d");
        x.abbreviation(1, 2, 1);
        x.abbreviation(3, 4, 1);
        x.drop(4, 3);
        x.finds(2, 30, 3, 30);
        x.abbreviation(3, 1, STATE);
        x.abbreviation(3, 2, 2);
    }

    @Sentence(of = P4, says = "what was its abbreviation is none any more:")
    static void aFreedAbbreviationStaysInItsGroups() {
        Trees x = new Trees().with("a", "b");
        x.within(4, 1, 1);
        x.abbreviation(1, 2, 1);
        x.within(4, 0, 1);
        x.finds();
        x.drop(2, 1);
        x.finds(1, 30);
    }

    @Sentence(of = P4, says = "what was its abbreviation is none any more:")
    static void a200thEntrysAbbreviationsAreFreedToo() {
        Trees x = new Trees().withEntries(200);
        for (int entry = 1; entry <= 199; entry++) {
            x.abbreviation(entry, 200, entry);
        }
        x.finds(200, 0);
        x.drop(200, 199);
        x.find(1000, 199);
        x.word(198, 199);
    }

    @Sentence(of = P4, says = "what was its abbreviation is none any more:")
    static void aDroppedAbbreviationCountsNoMore() {
        Trees x = new Trees().with("a", "b", "c");
        x.abbreviation(1, 2, 1);
        x.drop(1, 2);
        x.abbreviation(3, 2, 1);
        x.drop(3, 1);
        x.with("d");
        x.abbreviation(2, 4, 1);
    }

    @Sentence(of = P4, says = "how many entries there are that are not dropped;")
    static void theOnesThatAreLeftAreCounted() {
        Trees x = new Trees().withEntries(200);
        for (int number = 200; number >= 1; number--) {
            x.drop(number, number - 1);
        }
        x.drop(1, UNKNOWN);
        x.within(-1, 0, 0);
        x.finds();
    }

    @Sentence(of = P4, says = "how many entries there are that are not dropped;")
    static void abbreviationsAndOtherGroupsAreCountedToo() {
        Trees x = new Trees().withEntries(5);
        x.abbreviation(1, 2, 1);
        x.within(0, 3, 1);
        x.within(0, 0, 1);
        x.drop(4, 4);
        x.drop(1, 3);
        x.drop(3, 2);
    }

    @Sentence(of = P4, says = "UNKNOWN.")
    static void noDropOfWhatIsNoEntry() {
        Trees x = new Trees().withEntries(3);
        x.drop(2, 2);
        for (int entry : Trees.join(Trees.NO_ENTRIES, 0, 2, 4, 200)) {
            x.drop(entry, UNKNOWN);
        }
        x.drop(3, 1);
        x.drop(3, UNKNOWN);
        x.drop(1, 0);
        x.drop(1, UNKNOWN);
    }

    @Sentence(of = P4, says = "UNKNOWN.")
    static void refusedDropsChangeNothing() {
        Twins.changesNothing(x -> {
            x.drop(Twins.DROPPED, UNKNOWN);
            x.drop(Twins.NEXT, UNKNOWN);
            for (int entry : Trees.join(Trees.NO_ENTRIES, 0)) {
                x.drop(entry, UNKNOWN);
            }
        });
    }

    @Sentence(of = P4, says = "(What was found stays.)")
    static void whatWasFoundStaysAfterADrop() {
        Trees x = new Trees().with("a", "b", "c");
        x.abbreviation(1, 3, 1);
        x.reading("a", 7);
        x.finds(3, 7, 2, 55);
        x.drop(1, 2);
        x.tells(3, 7, 2, 55);
        x.drop(3, 1);
        x.tells(3, 7, 2, 55);
        x.drop(2, 0);
        x.tells(3, 7, 2, 55);
        x.finds();
        x.tells();
    }

    @Sentence(of = P4, says = "(What was found stays.)")
    static void whatWasFoundPlainStaysAfterADrop() {
        Trees x = new Trees().with("a", "a").reading("a", 7);
        x.findsPlain(1, 7, 2, 7);
        x.drop(1, 1);
        x.tells(1, 7, 2, 7);
        x.findsPlain(2, 7);
    }

    // Promise 5

    @Sentence(of = P5, says = "At a place (0 .. 19)")
    static void placesAre0To19() {
        Trees x = new Trees();
        x.cost(-1, 'a', 0, OUTSIDE);
        x.clear(0);
        x.cost(0, 'a', 0, 1);
        x.cost(1, 'a', 0, 2);
        x.cost(18, 'a', 0, 19);
        x.cost(19, 'a', 0, 20);
        x.cost(20, 'a', 0, OUTSIDE);
        x.clear(20);
    }

    @Sentence(of = P5, says = "a sign was read with a cost:")
    static void aSignAtThatPlaceHasThatCost() {
        Trees x = new Trees().with("a", "ab", "!", "~");
        x.cost(0, 'a', 3, 1);
        x.finds(1, 3, 2, 33, 3, 55, 4, 55);
        x.cost(1, 'b', 4, 2);
        x.finds(2, 7, 1, 28, 3, 80, 4, 80);
        x.cost(0, '!', 0, 2);
        x.cost(1, '~', 54, 2);
        x.finds(2, 7, 3, 25, 1, 28, 4, 79);
    }

    @Sentence(of = P5, says = "a sign was read with a cost:")
    static void theLastPlaceHasItsSigns() {
        Trees x = new Trees().with("abcdefghijklmnopqrst");
        x.reading("abcdefghijklmnopqrs", 0);
        x.finds(1, 30);
        x.cost(19, 't', 9, 20);
        x.finds(1, 9);
        x.cost(0, 'a', 8, 20);
        x.finds(1, 17);
    }

    @Sentence(of = P5, says = "a sign was read with a cost:")
    static void whatWasFoundStaysWhenMoreIsRead() {
        Trees x = new Trees().with("a").reading("a", 3);
        x.finds(1, 3);
        x.cost(0, 'a', 9, 1);
        x.cost(5, 'b', 9, 6);
        x.tells(1, 3);
    }

    @Sentence(of = P5, says = "how many places there are")
    static void placesAreCountedUpToTheLast() {
        Trees x = new Trees();
        for (int place = 0; place < 20; place++) {
            x.cost(place, 'a', 0, place + 1);
            x.cost(0, 'b', 1, place + 1);
            x.cost(place, 'b', 1, place + 1);
        }
        x.cost(7, '~', 1000, 20);
    }

    @Sentence(of = P5, says = "(those before it, too; some perhaps without signs);")
    static void placesBeforeItCountWithoutSigns() {
        Trees x = new Trees().with("", "a", "b");
        x.cost(3, 'a', 0, 4);
        x.finds(2, 75, 1, 100, 3, 130);
        x.cost(1, 'b', 0, 4);
        x.finds(2, 75, 3, 75, 1, 100);
        x.clear(4);
        x.cost(19, 'a', 0, 20);
        x.clear(20);
    }

    @Sentence(of = P5, says = "OUTSIDE.")
    static void noCostAtNoPlace() {
        Trees x = new Trees().with("a");
        x.cost(0, 'a', 5, 1);
        for (int place : Trees.NO_PLACES) {
            x.cost(place, 'a', 0, OUTSIDE);
        }
        x.finds(1, 5);
        x.clear(1);
    }

    @Sentence(of = P5, says = "OUTSIDE.")
    static void noCostOfNoSign() {
        Trees x = new Trees().with("a");
        x.cost(0, 'a', 5, 1);
        for (int c : Trees.NO_SIGNS) {
            x.cost(0, c, 0, OUTSIDE);
            x.cost(1, c, 0, OUTSIDE);
        }
        x.finds(1, 5);
        x.clear(1);
    }

    @Sentence(of = P5, says = "OUTSIDE.")
    static void noCostThatIsNone() {
        Trees x = new Trees().with("a");
        x.cost(0, 'a', 5, 1);
        for (int cost : Trees.NO_COSTS) {
            x.cost(0, 'a', cost, OUTSIDE);
            x.cost(1, 'a', cost, OUTSIDE);
        }
        x.finds(1, 5);
        x.clear(1);
    }

    @Sentence(of = P5, says = "OUTSIDE.")
    static void oneWrongNumberIsEnoughAndSoAreAll() {
        int[][] wrong = {{20, 127, 1001}, {-1, 32, -1}, {20, 127, 0}, {20, 'a', 1001}, {0, 127, 1001},
            {Integer.MIN_VALUE, Integer.MIN_VALUE, Integer.MIN_VALUE},
            {Integer.MAX_VALUE, Integer.MAX_VALUE, Integer.MAX_VALUE}};
        Trees x = new Trees();
        for (int[] each : wrong) {
            x.cost(each[0], each[1], each[2], OUTSIDE);
        }
        x.clear(0);
    }

    /** The sign behind the last one is none, nor is it the first one of the next place. */
    @Sentence(of = P5, says = "OUTSIDE.")
    static void aWrongSignTouchesNoOtherPlace() {
        Trees x = new Trees().with("!!", "~~");
        x.cost(0, 127, 0, OUTSIDE);
        x.cost(1, 32, 0, OUTSIDE);
        x.cost(-1, 127, 0, OUTSIDE);
        x.cost(20, 32, 0, OUTSIDE);
        x.cost(1, 'b', 0, 2);
        x.finds(1, 110, 2, 110);
        x.findsPlain();
    }

    /** A cost that was refused for a place behind the last one does not come to light later. */
    @Sentence(of = P5, says = "OUTSIDE.")
    static void aRefusedCostIsNotKeptForLater() {
        Trees x = new Trees().with("ab", "a");
        x.cost(0, 'a', 0, 1);
        x.cost(1, 'b', 1001, OUTSIDE);
        x.cost(1, 'b', -1, OUTSIDE);
        x.cost(1, 'c', 0, 2);
        x.finds(2, 25, 1, 55);
        x.findsPlain();
    }

    @Sentence(of = P5, says = "OUTSIDE.")
    static void refusedCostsChangeNothing() {
        Twins.changesNothing(x -> {
            x.cost(-1, 'a', 0, OUTSIDE);
            x.cost(20, 'a', 0, OUTSIDE);
            x.cost(Integer.MIN_VALUE, 'a', 0, OUTSIDE);
            x.cost(Integer.MAX_VALUE, 'a', 0, OUTSIDE);
        });
        Twins.changesNothing(x -> {
            x.cost(0, 32, 0, OUTSIDE);
            x.cost(19, 127, 0, OUTSIDE);
            x.cost(0, Integer.MIN_VALUE, 0, OUTSIDE);
            x.cost(19, Integer.MAX_VALUE, 0, OUTSIDE);
        });
        Twins.changesNothing(x -> {
            x.cost(0, 'a', -1, OUTSIDE);
            x.cost(1, 'b', 1001, OUTSIDE);
            x.cost(19, 'a', Integer.MIN_VALUE, OUTSIDE);
            x.cost(0, 'x', Integer.MAX_VALUE, OUTSIDE);
        });
    }

    // Promise 6

    @Sentence(of = P6, says = "Nothing is read any more:")
    static void nothingIsReadAfterAClear() {
        Trees x = new Trees().with("ab", "").reading("ab", 4);
        x.finds(1, 8, 2, 50);
        x.clear(2);
        x.finds(2, 0, 1, 60);
        x.findsPlain(2, 0);
    }

    @Sentence(of = P6, says = "Nothing is read any more:")
    static void whatWasToldBeforeDoesNotComeBack() {
        Trees x = new Trees().with("abcdefghijklmnopqrst", "!", "~");
        x.reading("abcdefghijklmnopqrst", 0);
        x.cost(0, '!', 0, 20);
        x.cost(0, '~', 0, 20);
        x.findsPlain(1, 0);
        x.clear(20);
        x.cost(0, '#', 0, 1);
        x.finds(2, 55, 3, 55);
        x.cost(19, '#', 0, 20);
        x.finds();
        x.findsPlain();
        x.clear(20);
    }

    @Sentence(of = P6, says = "Nothing is read any more:")
    static void noCornerOfWhatWasToldIsLeft() {
        String between = "bcdefghijklmnopqrs";
        for (String first : new String[] {"!", "~"}) {
            for (String last : new String[] {"!", "~"}) {
                Trees x = new Trees().with(first + between + last);
                x.reading(first + between + last, 1).finds(1, 20);
                x.clear(20);
                x.reading("#" + between + last, 1).finds(1, 74);
                x.reading(first + between + "#", 1).finds(1, 74);
                x.reading("#" + between + "#", 1).finds(1, 128);
                x.findsPlain();
            }
        }
    }

    @Sentence(of = P6, says = "Nothing is read any more:")
    static void allElseStaysAfterAClear() {
        Trees x = new Trees().with("a", "b", "c", "a").reading("a", 2);
        x.abbreviation(1, 2, 1);
        x.within(5, 2, 1);
        x.within(5, 3, 2);
        x.drop(3, 3);
        x.within(5, 0, 1);
        x.finds(2, 2);
        x.clear(1);
        x.tells(2, 2);
        x.finds(2, 30);
        x.cost(0, 'a', 1, 1);
        x.finds(2, 1);
        x.within(-1, 0, 3);
        x.finds(2, 1, 4, 1);
        x.letter(1, 'q', 2);
        x.drop(3, UNKNOWN);
        x.entry(5);
    }

    @Sentence(of = P6, says = "how many places there were.")
    static void placesThatWereAreCounted() {
        Trees x = new Trees();
        x.clear(0);
        x.clear(0);
        for (int count = 1; count <= 20; count++) {
            x.cost(count - 1, 'a', 0, count);
            x.clear(count);
            x.clear(0);
        }
        x.cost(9, 'a', 0, 10);
        x.cost(2, 'a', 0, 10);
        x.clear(10);
    }

    public static void main(String[] args) throws IOException {
        Sentences.run(Promises1To6Tests.class, P1, P2, P3, P4, P5, P6);
    }
}
