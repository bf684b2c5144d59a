import java.io.IOException;

/** The sentences under 'Terms', each with a test of its own. */
public final class TermsTests {
    private static final int UNKNOWN = -1, OUTSIDE = -2, STATE = -3, ROOM = -4;
    private static final String TERMS = "Terms";

    /** The only entry has these signs, this text was read at one cost: the sum. */
    private static void sumIs(String entry, String read, int cost, long sum) {
        new Trees().with(entry).reading(read, cost).finds(1, sum);
    }

    private static void isNotFound(String entry, String read, int cost) {
        new Trees().with(entry).reading(read, cost).finds();
    }

    // Entries and signs

    @Sentence(of = TERMS, says = "ENTRIES 1, 2, ..")
    static void entriesAreNumberedFrom1On() {
        Trees x = new Trees();
        x.letter(0, 'a', UNKNOWN);
        x.letter(1, 'a', UNKNOWN);
        x.entry(1);
        x.letter(0, 'a', UNKNOWN);
        x.letter(1, 'a', 1);
        x.letter(2, 'a', UNKNOWN);
        x.entry(2);
        x.letter(2, 'a', 1);
        x.letter(3, 'a', UNKNOWN);
    }

    @Sentence(of = TERMS, says = "(200 at most")
    static void entriesAre200AtMost() {
        Trees x = new Trees().withEntries(199);
        x.letter(200, 'a', UNKNOWN);
        x.entry(200);
        x.letter(200, 'a', 1);
        x.entry(ROOM);
        x.entry(ROOM);
        x.letter(201, 'a', UNKNOWN);
        x.within(-1, 0, 200);
    }

    @Sentence(of = TERMS, says = "dropped ones too)")
    static void droppedEntriesTakeRoomToo() {
        Trees x = new Trees();
        for (int number = 1; number <= 200; number++) {
            x.entry(number);
            x.drop(number, 0);
        }
        x.entry(ROOM);
        x.within(-1, 0, 0);
        x.drop(200, UNKNOWN);
        x.drop(201, UNKNOWN);
    }

    @Sentence(of = TERMS, says = "dropped ones too)")
    static void aDropMakesNoRoomAndFreesNoNumber() {
        Trees x = new Trees().withEntries(199);
        x.drop(199, 198);
        x.drop(1, 197);
        x.entry(200);
        x.entry(ROOM);
        x.drop(200, 197);
        x.entry(ROOM);
        x.letter(1, 'a', UNKNOWN);
        x.letter(199, 'a', UNKNOWN);
    }

    @Sentence(of = TERMS, says = "are rows of SIGNS")
    static void anEntryIsARowOfSignsInTheirOrder() {
        new Trees().with("ab", "ba", "aab", "a").reading("ab", 0).finds(1, 0, 4, 25, 3, 30, 2, 55);
    }

    @Sentence(of = TERMS, says = "33 .. 126")
    static void signsAre33To126() {
        Trees x = new Trees();
        x.entry(1);
        x.letter(1, 32, OUTSIDE);
        x.letter(1, 33, 1);
        x.letter(1, 34, 2);
        x.letter(1, 125, 3);
        x.letter(1, 126, 4);
        x.letter(1, 127, OUTSIDE);
        x.cost(0, 32, 0, OUTSIDE);
        x.cost(0, 33, 0, 1);
        x.cost(0, 126, 0, 1);
        x.cost(0, 127, 0, OUTSIDE);
        for (int c : Trees.NO_SIGNS) {
            x.letter(1, c, OUTSIDE);
            x.cost(0, c, 0, OUTSIDE);
        }
    }

    @Sentence(of = TERMS, says = "33 .. 126")
    static void eachSignIsItselfAlone() {
        for (int c = 33; c <= 126; c++) {
            Trees x = new Trees().with("" + (char) c, "" + (char) (c == 33 ? 126 : c - 1));
            x.cost(0, c, 7, 1);
            x.finds(1, 7, 2, 55);
        }
    }

    @Sentence(of = TERMS, says = "20 at most.")
    static void signsAre20AtMost() {
        Trees x = new Trees().with("abcdefghijklmnopqrs");
        x.letter(1, 't', 20);
        x.letter(1, 'u', ROOM);
        x.letter(1, 'u', ROOM);
        x.reading("abcdefghijklmnopqrst", 0).finds(1, 0);
    }

    // What was read

    @Sentence(of = TERMS, says = "READ are PLACES 0, 1, ..:")
    static void placesAreNumberedFrom0On() {
        Trees x = new Trees().with("");
        x.finds(1, 0);
        x.cost(-1, 'a', 0, OUTSIDE);
        x.finds(1, 0);
        x.cost(0, 'a', 0, 1);
        x.finds(1, 25);
        x.cost(1, 'a', 0, 2);
        x.finds(1, 50);
    }

    @Sentence(of = TERMS, says = "at each some signs, each with a cost")
    static void aPlaceHasSeveralSignsWithTheirOwnCosts() {
        Trees x = new Trees().with("a", "b", "c", "d");
        x.cost(0, 'a', 4, 1);
        x.cost(0, 'b', 3, 1);
        x.cost(0, 'c', 2, 1);
        x.finds(3, 2, 2, 3, 1, 4, 4, 55);
    }

    @Sentence(of = TERMS, says = "at each some signs, each with a cost")
    static void aPlaceMayHaveAllSigns() {
        Trees x = new Trees().with("!", "a", "~");
        for (int c = 33; c <= 126; c++) {
            x.cost(19, c, c % 50, 20);
        }
        x.plain(1, 0);
        x.clear(20);
        for (int c = 33; c <= 126; c++) {
            x.cost(0, c, c % 50, 1);
        }
        x.finds(3, 126 % 50, 1, 33, 2, 97 % 50);
        x.findsPlain(1, 33, 2, 97 % 50, 3, 126 % 50);
    }

    @Sentence(of = TERMS, says = "at each some signs, each with a cost")
    static void aSignHasItsOwnCostAtEachPlace() {
        Trees x = new Trees().with("aa");
        x.cost(0, 'a', 1, 1);
        x.cost(1, 'a', 10, 2);
        x.finds(1, 11);
        x.cost(2, 'a', 3, 3);
        x.finds(1, 29);
    }

    @Sentence(of = TERMS, says = "(0 .. 1000")
    static void costsAre0To1000() {
        Trees x = new Trees().with("a");
        x.cost(0, 'a', -1, OUTSIDE);
        x.clear(0);
        x.cost(0, 'a', 0, 1);
        x.finds(1, 0);
        x.cost(0, 'a', 1, 1);
        x.finds(1, 1);
        x.cost(0, 'a', 999, 1);
        x.findsPlain(1, 55);
        x.cost(0, 'a', 1000, 1);
        x.findsPlain(1, 55);
        x.cost(0, 'b', 1001, OUTSIDE);
        for (int cost : Trees.NO_COSTS) {
            x.cost(0, 'a', cost, OUTSIDE);
        }
    }

    @Sentence(of = TERMS, says = "the latest told counts).")
    static void theLatestToldCostCounts() {
        Trees x = new Trees().with("a");
        x.cost(0, 'a', 20, 1);
        x.cost(0, 'a', 10, 1);
        x.finds(1, 10);
        x.cost(0, 'a', 30, 1);
        x.finds(1, 30);
        x.cost(0, 'a', 1000, 1);
        x.finds(1, 55);
        x.cost(0, 'a', 0, 1);
        x.finds(1, 0);
        x.cost(0, 'b', 40, 1);
        x.cost(1, 'a', 41, 2);
        x.finds(1, 25);
    }

    // Sums

    @Sentence(of = TERMS, says = "The SUM of an entry is the least cost of making it of what was read")
    static void theSumIsTheLeastOfAllWays() {
        sumIs("", "", 0, 0);
        sumIs("abc", "abc", 7, 21);
        sumIs("abc", "ac", 5, 40);
        sumIs("ac", "abc", 5, 35);
        sumIs("aab", "ab", 2, 34);
        sumIs("ab", "aab", 2, 29);
        sumIs("abcd", "xbcx", 3, 116);
        sumIs("kitten", "sitting", 0, 135);
        sumIs("abab", "baba", 0, 55);
        sumIs("aaaaaaaaaaaaaaaaaaaa", "aaaaaaaaaaaaaaaaaaaa", 0, 0);
        sumIs("aaaaaaaaaaaaaaaaaaaa", "aaaaaaaaaaaaaaaaaaaa", 20, 400);
        isNotFound("aaaaaaaaaaaaaaaaaaaa", "aaaaaaaaaaaaaaaaaaaa", 21);
    }

    @Sentence(of = TERMS, says = "The SUM of an entry is the least cost of making it of what was read")
    static void theFirstPlaceThatFitsIsNotAlwaysTheBest() {
        Trees x = new Trees().with("ab");
        x.cost(0, 'a', 50, 1);
        x.cost(1, 'a', 0, 2);
        x.cost(1, 'b', 0, 2);
        x.cost(2, 'b', 1, 3);
        x.finds(1, 26);
    }

    @Sentence(of = TERMS, says = "from the first place and sign on:")
    static void placesAndSignsKeepTheirOrder() {
        sumIs("ab", "ba", 1, 56);
        sumIs("abc", "cab", 1, 57);
        sumIs("abc", "cba", 0, 110);
    }

    @Sentence(of = TERMS, says = "from the first place and sign on:")
    static void nothingBeforeTheMatchIsFree() {
        sumIs("b", "ab", 0, 25);
        sumIs("b", "aab", 0, 50);
        sumIs("ab", "b", 0, 30);
        sumIs("aab", "b", 0, 60);
    }

    @Sentence(of = TERMS, says = "a place read as the entry's next sign costs what that sign costs there,")
    static void aPlaceReadAsTheNextSignCostsWhatWasTold() {
        for (int cost : new int[] {0, 1, 2, 29, 30, 31, 53, 54}) {
            sumIs("a", "a", cost, cost);
        }
        for (int cost : new int[] {55, 56, 59, 60, 61, 400, 401, 999, 1000}) {
            sumIs("a", "a", cost, 55);
        }
        sumIs("aa", "aa", 54, 108);
        sumIs("aaa", "aaa", 40, 120);
    }

    @Sentence(of = TERMS, says = "60 if that sign was not told for the place;")
    static void anUntoldSignCostsNoLessThanALackAndANeedlessPlace() {
        sumIs("a", "b", 0, 55);
        sumIs("aa", "bb", 0, 110);
        sumIs("aaaaaaa", "bbbbbbb", 0, 385);
        sumIs("ac", "bc", 0, 55);
        sumIs("ca", "cb", 0, 55);
    }

    @Sentence(of = TERMS, says = "60 if that sign was not told for the place;")
    static void aSignToldForAnotherPlaceIsNotToldForThis() {
        Trees x = new Trees().with("cac");
        x.cost(0, 'c', 0, 1);
        x.cost(1, 'b', 0, 2);
        x.cost(2, 'c', 0, 3);
        x.cost(0, 'a', 0, 3);
        x.cost(2, 'a', 0, 3);
        x.finds(1, 55);
        x.cost(1, 'a', 6, 3);
        x.finds(1, 6);
    }

    @Sentence(of = TERMS, says = "60 if that sign was not told for the place;")
    static void aPlaceWithoutSignsIsReadAsNone() {
        Trees x = new Trees().with("aba");
        x.cost(0, 'a', 0, 1);
        x.cost(2, 'a', 0, 3);
        x.finds(1, 55);
    }

    @Sentence(of = TERMS, says = "a sign of the entry without a place costs 30;")
    static void eachSignWithoutAPlaceCosts30() {
        String signs = "";
        for (int count = 0; count <= 13; count++) {
            sumIs(signs, "", 0, 30L * count);
            signs += "a";
        }
        isNotFound(signs, "", 0);
        isNotFound("aaaaaaaaaaaaaaaaaaaa", "", 0);
        sumIs("xab", "ab", 0, 30);
        sumIs("axb", "ab", 0, 30);
        sumIs("abx", "ab", 0, 30);
        sumIs("xaxbx", "ab", 0, 90);
    }

    @Sentence(of = TERMS, says = "a place without a sign of the entry 25.")
    static void eachPlaceWithoutASignCosts25() {
        String places = "";
        for (int count = 0; count <= 16; count++) {
            sumIs("", places, 0, 25L * count);
            places += "a";
        }
        isNotFound("", places, 0);
        isNotFound("", "aaaaaaaaaaaaaaaaaaaa", 0);
        sumIs("ab", "xab", 0, 25);
        sumIs("ab", "axb", 0, 25);
        sumIs("ab", "abx", 0, 25);
        sumIs("ab", "xaxbx", 0, 75);
    }

    @Sentence(of = TERMS, says = "a place without a sign of the entry 25.")
    static void aPlaceThatHasNoSignsCosts25Too() {
        Trees x = new Trees().with("", "a");
        x.cost(15, 'a', 0, 16);
        x.finds(2, 375, 1, 400);
        x.cost(16, 'b', 0, 17);
        x.finds(2, 400);
    }

    // Abbreviations and groups

    @Sentence(of = TERMS, says = "An entry may be an ABBREVIATION of another one, which is none itself: it is found as that.")
    static void anAbbreviationIsFoundAsWhatItStandsFor() {
        Trees x = new Trees().with("etc", "etcetera", "q");
        x.reading("etc", 1);
        x.finds(1, 3, 3, 105, 2, 153);
        x.abbreviation(1, 2, 1);
        x.finds(2, 3, 3, 105);
        x.abbreviation(3, 1, STATE);
        x.finds(2, 3, 3, 105);
    }

    @Sentence(of = TERMS, says = "An entry has its own sum, or that of one of its abbreviations")
    static void ownSumOrAnAbbreviationsByLowerAndHigherNumber() {
        Trees x = new Trees().with("a", "b", "c");
        x.abbreviation(1, 2, 1);
        x.abbreviation(3, 2, 2);
        x.reading("a", 2).finds(2, 2);
        x.reading("b", 3).finds(2, 3);
        x.reading("c", 4).finds(2, 4);
        x.reading("d", 5).finds(2, 55);
        x.reading("", 0).finds(2, 30);
    }

    @Sentence(of = TERMS, says = "(that are not dropped)")
    static void aDroppedAbbreviationGivesNoSum() {
        Trees x = new Trees().with("abc", "z", "zz");
        x.abbreviation(2, 1, 1);
        x.abbreviation(3, 1, 2);
        x.reading("z", 0);
        x.finds(1, 0);
        x.drop(2, 2);
        x.finds(1, 30);
        x.drop(3, 1);
        x.finds(1, 115);
    }

    @Sentence(of = TERMS, says = "whichever is least.")
    static void theLeastOfOwnAndAbbreviationsSums() {
        Trees x = new Trees().with("s", "t", "u");
        x.abbreviation(2, 1, 1);
        x.abbreviation(3, 1, 2);
        int[][] costs = {{1, 2, 3}, {1, 3, 2}, {2, 1, 3}, {3, 1, 2}, {2, 3, 1}, {3, 2, 1}, {1, 1, 2}, {2, 1, 1}};
        for (int[] each : costs) {
            x.cost(0, 's', each[0], 1);
            x.cost(0, 't', each[1], 1);
            x.cost(0, 'u', each[2], 1);
            x.finds(1, 1);
        }
    }

    @Sentence(of = TERMS, says = "whichever is least.")
    static void anAbbreviationBringsASumUnder400() {
        Trees x = new Trees().with("zzzzzzzzzzzzzzzzzzzz", "z");
        x.abbreviation(2, 1, 1);
        x.reading("z", 11).finds(1, 11);
        x.letter(2, 'z', 2);
        x.finds(1, 41);
    }

    @Sentence(of = TERMS, says = "GROUPS 0 .. 7 hold entries.")
    static void groupsAre0To7() {
        Trees x = new Trees().withEntries(2);
        x.within(-1, 1, OUTSIDE);
        x.within(0, 1, 1);
        x.within(1, 2, 1);
        x.within(6, 2, 1);
        x.within(7, 1, 1);
        x.within(8, 1, OUTSIDE);
        for (int group : Trees.NO_GROUPS) {
            x.within(group, 1, OUTSIDE);
        }
    }

    @Sentence(of = TERMS, says = "GROUPS 0 .. 7 hold entries.")
    static void eachGroupHoldsItsOwnEntries() {
        Trees x = new Trees().withEntries(8);
        for (int group = 0; group < 8; group++) {
            x.within(group, 8 - group, 1);
        }
        for (int group = 0; group < 8; group++) {
            x.within(group, 0, 1);
            x.finds(8 - group, 0);
        }
    }

    @Sentence(of = TERMS, says = "GROUPS 0 .. 7 hold entries.")
    static void aGroupHolds200() {
        Trees x = new Trees().withEntries(200);
        for (int number = 1; number <= 200; number++) {
            x.within(7, number, number);
        }
        x.within(6, 0, 0);
        x.find(1000, 0);
        x.within(7, 0, 200);
        x.find(1000, 200);
        x.word(199, 200);
    }

    // What is found

    @Sentence(of = TERMS, says = "FOUND are entries (not dropped")
    static void foundAreEntriesThatAreNotDropped() {
        Trees x = new Trees().with("a", "b", "c");
        x.finds(1, 30, 2, 30, 3, 30);
        x.drop(2, 2);
        x.finds(1, 30, 3, 30);
        x.drop(1, 1);
        x.finds(3, 30);
        x.drop(3, 0);
        x.finds();
    }

    @Sentence(of = TERMS, says = "no abbreviations of others")
    static void foundAreNoAbbreviationsOfOthers() {
        Trees x = new Trees().with("a", "b", "c");
        x.abbreviation(2, 3, 1);
        x.finds(1, 30, 3, 30);
        x.abbreviation(1, 3, 2);
        x.finds(3, 30);
        x.drop(3, 2);
        x.finds(1, 30, 2, 30);
    }

    @Sentence(of = TERMS, says = "in the group that is LOOKED AT, if one is)")
    static void foundAreInTheGroupThatIsLookedAt() {
        Trees x = new Trees().with("a", "b", "c");
        x.within(2, 1, 1);
        x.within(2, 3, 2);
        x.within(5, 2, 1);
        x.finds(1, 30, 2, 30, 3, 30);
        x.within(2, 0, 2);
        x.finds(1, 30, 3, 30);
        x.within(5, 0, 1);
        x.finds(2, 30);
        x.within(4, 0, 0);
        x.finds();
        x.within(-1, 0, 3);
        x.finds(1, 30, 2, 30, 3, 30);
    }

    @Sentence(of = TERMS, says = "in the group that is LOOKED AT, if one is)")
    static void theGroupIsAskedOfWhatIsFoundNotOfItsAbbreviations() {
        Trees x = new Trees().with("etcetera", "etc");
        x.abbreviation(2, 1, 1);
        x.reading("etc", 0);
        x.within(2, 2, 1);
        x.within(2, 0, 1);
        x.finds();
        x.within(3, 1, 1);
        x.within(3, 0, 1);
        x.finds(1, 0);
    }

    @Sentence(of = TERMS, says = "with a sum of 400 at most,")
    static void foundHaveASumOf400AtMost() {
        Trees x = new Trees().with("", "a");
        x.cost(15, 'a', 24, 16);
        x.finds(2, 399, 1, 400);
        x.cost(15, 'a', 25, 16);
        x.finds(1, 400, 2, 400);
        x.cost(15, 'a', 26, 16);
        x.finds(1, 400);
        x.cost(16, 'b', 0, 17);
        x.finds();
        x.cost(19, 'b', 0, 20);
        x.finds();
    }

    @Sentence(of = TERMS, says = "in the order of sums, then numbers.")
    static void foundAreInTheOrderOfSumsThenNumbers() {
        Trees x = new Trees().with("b", "ab", "a", "c", "a", "abcde", "ab");
        x.reading("a", 0);
        x.finds(3, 0, 5, 0, 2, 30, 7, 30, 1, 55, 4, 55, 6, 120);
        x.reading("b", 54);
        x.finds(1, 54, 3, 55, 4, 55, 5, 55, 2, 84, 7, 84, 6, 174);
    }

    // Refusals

    @Sentence(of = TERMS, says = "REFUSALS are answers")
    static void refusalsAreAnswersWithTheirNumbers() {
        Sentences.due("UNKNOWN", WordTrees.UNKNOWN, UNKNOWN);
        Sentences.due("OUTSIDE", WordTrees.OUTSIDE, OUTSIDE);
        Sentences.due("STATE", WordTrees.STATE, STATE);
        Sentences.due("ROOM", WordTrees.ROOM, ROOM);
    }

    @Sentence(of = TERMS, says = "of several the first one here:")
    static void ofSeveralRefusalsTheFirstIsAnswered() {
        Trees x = new Trees().with("abcdefghijklmnopqrst", "b", "c");
        x.abbreviation(2, 3, 1);
        x.letter(4, 127, UNKNOWN);
        x.letter(1, 127, OUTSIDE);
        x.letter(1, 'a', ROOM);
        x.within(8, 4, UNKNOWN);
        x.within(8, 1, OUTSIDE);
        x.abbreviation(3, 4, UNKNOWN);
        x.abbreviation(4, 2, UNKNOWN);
        x.abbreviation(4, 4, UNKNOWN);
        x.drop(1, 2);
        x.letter(1, 127, UNKNOWN);
        x.letter(1, 'a', UNKNOWN);
        x.within(8, 1, UNKNOWN);
        x.within(-1, 1, UNKNOWN);
        x.abbreviation(1, 1, UNKNOWN);
        x.abbreviation(1, 2, UNKNOWN);
        x.abbreviation(3, 1, UNKNOWN);
    }

    @Sentence(of = TERMS, says = "UNKNOWN (there is no such entry, or it was dropped)")
    static void unknownIsWhatIsNoEntry() {
        Trees x = new Trees().withEntries(2);
        for (int entry : Trees.join(Trees.NO_ENTRIES, 3, 199, 200)) {
            x.letter(entry, 'a', UNKNOWN);
            x.drop(entry, UNKNOWN);
            x.within(0, entry, UNKNOWN);
            x.abbreviation(entry, 1, UNKNOWN);
            x.abbreviation(1, entry, UNKNOWN);
        }
        x.letter(0, 'a', UNKNOWN);
        x.drop(0, UNKNOWN);
        x.abbreviation(0, 1, UNKNOWN);
        x.abbreviation(1, 0, UNKNOWN);
        x.abbreviation(0, 0, UNKNOWN);
    }

    @Sentence(of = TERMS, says = "UNKNOWN (there is no such entry, or it was dropped)")
    static void unknownIsWhatWasDropped() {
        Trees x = new Trees().withEntries(3);
        x.drop(2, 2);
        x.letter(2, 'a', UNKNOWN);
        x.drop(2, UNKNOWN);
        x.within(0, 2, UNKNOWN);
        x.abbreviation(2, 1, UNKNOWN);
        x.abbreviation(1, 2, UNKNOWN);
        x.letter(1, 'a', 1);
        x.letter(3, 'a', 1);
    }

    @Sentence(of = TERMS, says = "OUTSIDE (a number is not as said)")
    static void outsideIsANumberThatIsNotAsSaid() {
        Trees x = new Trees().withEntries(1);
        x.letter(1, 127, OUTSIDE);
        x.cost(20, 'a', 0, OUTSIDE);
        x.cost(0, 127, 0, OUTSIDE);
        x.cost(0, 'a', 1001, OUTSIDE);
        x.find(1001, OUTSIDE);
        x.plain(1001, OUTSIDE);
        x.within(8, 1, OUTSIDE);
        x.within(8, 0, OUTSIDE);
    }

    @Sentence(of = TERMS, says = "STATE (not as it stands now)")
    static void stateMayPassWhenItStandsOtherwise() {
        Trees x = new Trees().withEntries(3);
        x.abbreviation(1, 2, 1);
        x.abbreviation(2, 3, STATE);
        x.abbreviation(3, 1, STATE);
        x.drop(1, 2);
        x.abbreviation(2, 3, 1);
    }

    @Sentence(of = TERMS, says = "ROOM.")
    static void roomIsTheLastRefusal() {
        Trees x = new Trees().with("abcdefghijklmnopqrst");
        x.letter(1, 'a', ROOM);
        for (int number = 2; number <= 200; number++) {
            x.entry(number);
        }
        x.entry(ROOM);
        x.letter(1, 'a', ROOM);
        x.letter(2, 'a', 1);
    }

    @Sentence(of = TERMS, says = "A call that is refused changes nothing.")
    static void allKindsOfRefusedCallsChangeNothing() {
        Twins.changesNothing(x -> {
            x.letter(Twins.NEXT, 'a', UNKNOWN);
            x.letter(Twins.PLAIN, 127, OUTSIDE);
            x.letter(Twins.FULL, 'a', ROOM);
            x.drop(Twins.DROPPED, UNKNOWN);
            x.cost(0, 'a', 1001, OUTSIDE);
            x.find(0, OUTSIDE);
            x.plain(0, OUTSIDE);
            x.word(-1, UNKNOWN);
            x.sum(-1, UNKNOWN);
            x.within(8, 0, OUTSIDE);
            x.within(8, Twins.PLAIN, OUTSIDE);
            x.within(1, Twins.DROPPED, UNKNOWN);
            x.abbreviation(Twins.PLAIN, Twins.SHORT_FORM, STATE);
            x.abbreviation(Twins.DROPPED, Twins.PLAIN, UNKNOWN);
        });
    }

    @Sentence(of = "What it is", says = "An object is used for at most 512 calls after it has been made")
    static void the512thCallIsAnsweredToo() {
        Trees x = new Trees().withEntries(200);
        while (x.callCount() < 511) {
            x.entry(ROOM);
        }
        x.find(1000, 200);
        Sentences.due("how many calls there were", x.callCount(), 512);
    }

    public static void main(String[] args) throws IOException {
        Sentences.run(TermsTests.class, TERMS);
    }
}
