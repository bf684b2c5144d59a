import java.io.IOException;

/** The sentences of promises 7 to 12 (find, word, sum, within, abbreviation, plain), each with a test of its own. */
public final class Promises7To12Tests {
    private static final int UNKNOWN = -1, OUTSIDE = -2, STATE = -3;
    private static final String P7 = "Promise 7: find";
    private static final String P8 = "Promise 8: word";
    private static final String P9 = "Promise 9: sum";
    private static final String P10 = "Promise 10: within";
    private static final String P11 = "Promise 11: abbreviation";
    private static final String P12 = "Promise 12: plain";

    /** Numbers that are no place in a list of two. */
    private static final int[] NOT_OF_TWO = Trees.join(Trees.FAR, -2, -1, 2, 3, 199, 200, 201, 257);

    private static Trees twoFound() {
        Trees x = new Trees().with("b", "a").reading("a", 3);
        x.find(9, 2);
        return x;
    }

    // Promise 7

    @Sentence(of = P7, says = "The first k that are FOUND")
    static void theFirstKAreFound() {
        Trees x = new Trees().with("c", "ab", "a", "a").reading("a", 1);
        x.find(1, 1);
        x.tells(3, 1);
        x.find(2, 2);
        x.tells(3, 1, 4, 1);
        x.find(3, 3);
        x.tells(3, 1, 4, 1, 2, 31);
        x.find(4, 4);
        x.tells(3, 1, 4, 1, 2, 31, 1, 55);
        x.find(1, 1);
        x.tells(3, 1);
    }

    @Sentence(of = P7, says = "The first k that are FOUND")
    static void theFirstKOf200() {
        Trees x = new Trees().withEntries(200);
        x.letter(1, 'a', 1);
        x.find(199, 199);
        x.word(0, 2);
        x.word(198, 200);
        x.word(199, UNKNOWN);
        x.find(200, 200);
        x.word(198, 200);
        x.word(199, 1);
        x.sum(199, 30);
        x.word(200, UNKNOWN);
        x.sum(200, UNKNOWN);
        x.find(201, 200);
        x.find(1, 1);
        x.word(0, 2);
        x.word(1, UNKNOWN);
    }

    @Sentence(of = P7, says = "(all, if there are less):")
    static void allAreFoundIfThereAreLess() {
        Trees x = new Trees().with("a", "b");
        x.find(3, 2);
        x.tells(1, 30, 2, 30);
        x.find(2, 2);
        x.find(1000, 2);
        x.tells(1, 30, 2, 30);
    }

    @Sentence(of = P7, says = "how many;")
    static void theFoundAreCountedAndMayBeNone() {
        Trees x = new Trees();
        x.find(1, 0);
        x.find(1000, 0);
        x.with("aaaaaaaaaaaaaa");
        x.find(1, 0);
        x.with("a");
        x.find(1, 1);
        x.find(2, 1);
        x.within(0, 0, 0);
        x.find(2, 0);
        x.within(-1, 0, 2);
        x.drop(2, 1);
        x.find(2, 0);
    }

    @Sentence(of = P7, says = "word and sum tell them.")
    static void wordAndSumTellTheLatestFound() {
        Trees x = new Trees().with("a", "b", "c");
        x.finds(1, 30, 2, 30, 3, 30);
        x.reading("c", 2).finds(3, 2, 1, 55, 2, 55);
        x.drop(1, 2);
        x.finds(3, 2, 2, 55);
        x.within(1, 0, 0);
        x.finds();
    }

    @Sentence(of = P7, says = "OUTSIDE when k is not 1 .. 1000.")
    static void kIs1To1000ForFind() {
        Trees x = new Trees().with("a", "b");
        x.find(0, OUTSIDE);
        x.find(1, 1);
        x.find(2, 2);
        x.find(999, 2);
        x.find(1000, 2);
        x.find(1001, OUTSIDE);
        for (int k : Trees.NO_KS) {
            x.find(k, OUTSIDE);
        }
        new Trees().find(0, OUTSIDE);
        new Trees().find(1001, OUTSIDE);
    }

    @Sentence(of = P7, says = "OUTSIDE when k is not 1 .. 1000.")
    static void refusedFindsChangeNothing() {
        Twins.changesNothing(x -> {
            for (int k : Trees.NO_KS) {
                x.find(k, OUTSIDE);
            }
        });
        Trees x = new Trees().with("a");
        x.find(0, OUTSIDE);
        x.tells();
        x.find(1, 1);
        x.letter(1, 'b', 2);
        x.find(1001, OUTSIDE);
        x.tells(1, 30);
    }

    // Promise 8

    @Sentence(of = P8, says = "The i-th (0 the first)")
    static void theWordsAreCountedFrom0() {
        Trees x = new Trees().with("aaa", "aa", "a", "");
        x.find(9, 4);
        x.word(0, 4);
        x.word(1, 3);
        x.word(2, 2);
        x.word(3, 1);
        x.word(4, UNKNOWN);
    }

    @Sentence(of = P8, says = "of those that were found latest;")
    static void wordsAreTheLatestFound() {
        Trees x = twoFound();
        x.word(0, 2);
        x.word(1, 1);
        x.find(1, 1);
        x.word(0, 2);
        x.word(1, UNKNOWN);
        x.reading("b", 1).find(9, 2);
        x.word(0, 1);
        x.word(1, 2);
        x.plain(9, 1);
        x.word(0, 1);
        x.word(1, UNKNOWN);
        x.find(9, 2);
        x.word(1, 2);
    }

    @Sentence(of = P8, says = "of those that were found latest;")
    static void noOtherCallChangesTheWords() {
        Trees x = twoFound();
        x.entry(3);
        x.letter(2, 'q', 2);
        x.cost(0, 'b', 0, 1);
        x.within(4, 1, 1);
        x.within(4, 0, 1);
        x.abbreviation(3, 1, 1);
        x.drop(2, 2);
        x.clear(1);
        x.word(0, 2);
        x.word(1, 1);
        x.word(2, UNKNOWN);
    }

    @Sentence(of = P8, says = "UNKNOWN when there is none such.")
    static void noWordBesideTheFound() {
        Trees x = twoFound();
        for (int i : NOT_OF_TWO) {
            x.word(i, UNKNOWN);
        }
        x.word(0, 2);
        x.word(1, 1);
    }

    @Sentence(of = P8, says = "UNKNOWN when there is none such.")
    static void noWordWhenNothingWasFound() {
        Trees x = new Trees().with("a");
        for (int i : Trees.join(NOT_OF_TWO, 0, 1)) {
            x.word(i, UNKNOWN);
        }
        x.find(1, 1);
        x.within(0, 0, 0);
        x.find(1, 0);
        x.word(0, UNKNOWN);
    }

    @Sentence(of = P8, says = "UNKNOWN when there is none such.")
    static void noWordBehindThe200th() {
        Trees x = new Trees().withEntries(200);
        x.find(1000, 200);
        for (int i = 0; i < 200; i++) {
            x.word(i, i + 1);
        }
        x.word(-1, UNKNOWN);
        x.word(200, UNKNOWN);
        x.word(201, UNKNOWN);
    }

    @Sentence(of = P8, says = "UNKNOWN when there is none such.")
    static void refusedWordsChangeNothing() {
        Twins.changesNothing(x -> {
            for (int i : NOT_OF_TWO) {
                if (i != 2) {
                    x.word(i, UNKNOWN);
                }
            }
        });
    }

    // Promise 9

    @Sentence(of = P9, says = "Its sum;")
    static void theSumsAreInTheOrderOfTheWords() {
        Trees x = new Trees().with("aaa", "aa", "a", "").reading("a", 2);
        x.find(9, 4);
        x.sum(0, 2);
        x.sum(1, 25);
        x.sum(2, 32);
        x.sum(3, 62);
        x.find(2, 2);
        x.sum(1, 25);
        x.sum(2, UNKNOWN);
    }

    @Sentence(of = P9, says = "Its sum;")
    static void sumsAreFrom0To400AndBeyondForPlain() {
        Trees x = new Trees().with("").reading("", 0);
        x.find(1, 1);
        x.sum(0, 0);
        x.cost(15, 'a', 0, 16);
        x.find(1, 1);
        x.sum(0, 400);
        Trees y = new Trees().with("aaaaaaaaaaaaaaaaaaaa").reading("aaaaaaaaaaaaaaaaaaaa", 1000);
        y.plain(1, 1);
        y.sum(0, 1100);
        y.find(1, 0);
        y.sum(0, UNKNOWN);
    }

    @Sentence(of = P9, says = "Its sum;")
    static void theSumIsThatOfWhenItWasFound() {
        Trees x = twoFound();
        x.entry(3);
        x.letter(2, 'q', 2);
        x.cost(0, 'b', 0, 1);
        x.within(4, 1, 1);
        x.within(4, 0, 1);
        x.abbreviation(3, 1, 1);
        x.drop(2, 2);
        x.clear(1);
        x.sum(0, 3);
        x.sum(1, 55);
        x.sum(2, UNKNOWN);
    }

    @Sentence(of = P9, says = "UNKNOWN when there is none such.")
    static void noSumBesideTheFound() {
        Trees x = twoFound();
        for (int i : NOT_OF_TWO) {
            x.sum(i, UNKNOWN);
        }
        x.sum(0, 3);
        x.sum(1, 55);
    }

    @Sentence(of = P9, says = "UNKNOWN when there is none such.")
    static void noSumWhenNothingWasFound() {
        Trees x = new Trees().with("a");
        for (int i : Trees.join(NOT_OF_TWO, 0, 1)) {
            x.sum(i, UNKNOWN);
        }
        x.find(1, 1);
        x.within(0, 0, 0);
        x.find(1, 0);
        x.sum(0, UNKNOWN);
    }

    @Sentence(of = P9, says = "UNKNOWN when there is none such.")
    static void noSumBehindThe200th() {
        Trees x = new Trees().withEntries(200).reading("a", 0);
        x.find(1000, 200);
        for (int i = 0; i < 200; i++) {
            x.sum(i, 25);
        }
        x.sum(-1, UNKNOWN);
        x.sum(200, UNKNOWN);
        x.sum(201, UNKNOWN);
    }

    @Sentence(of = P9, says = "UNKNOWN when there is none such.")
    static void refusedSumsChangeNothing() {
        Twins.changesNothing(x -> {
            for (int i : NOT_OF_TWO) {
                if (i != 2) {
                    x.sum(i, UNKNOWN);
                }
            }
        });
    }

    // Promise 10

    @Sentence(of = P10, says = "An entry comes into a group")
    static void anEntryComesIntoEachGroup() {
        for (int group = 0; group < 8; group++) {
            Trees x = new Trees().with("a", "b");
            x.within(group, 2, 1);
            x.within(group, 0, 1);
            x.finds(2, 30);
            x.within(group, 1, 2);
            x.finds(1, 30, 2, 30);
        }
    }

    @Sentence(of = P10, says = "An entry comes into a group")
    static void tellingAGroupIsNotLookingAtIt() {
        Trees x = new Trees().with("a", "b");
        x.within(3, 1, 1);
        x.finds(1, 30, 2, 30);
        x.within(3, 0, 1);
        x.within(4, 2, 1);
        x.finds(1, 30);
    }

    @Sentence(of = P10, says = "(it stays in others):")
    static void anEntryMayBeInAllGroups() {
        Trees x = new Trees().with("a", "b");
        for (int group = 7; group >= 0; group--) {
            x.within(group, 1, 1);
        }
        for (int group = 0; group < 8; group++) {
            x.within(group, 0, 1);
            x.finds(1, 30);
        }
    }

    @Sentence(of = P10, says = "how many (not dropped) are in it;")
    static void theGroupIsCountedAndNoneTwice() {
        Trees x = new Trees().withEntries(4);
        x.within(0, 1, 1);
        x.within(0, 1, 1);
        x.within(0, 4, 2);
        x.within(1, 4, 1);
        x.within(0, 2, 3);
        x.within(0, 4, 3);
    }

    @Sentence(of = P10, says = "how many (not dropped) are in it;")
    static void theDroppedAreNotCountedInAGroup() {
        Trees x = new Trees().withEntries(4);
        x.within(0, 1, 1);
        x.within(0, 2, 2);
        x.within(0, 3, 3);
        x.drop(2, 3);
        x.within(0, 1, 2);
        x.within(0, 0, 2);
        x.within(0, 4, 3);
        x.drop(1, 2);
        x.drop(3, 1);
        x.within(0, 4, 1);
        x.drop(4, 0);
        x.within(0, 0, 0);
        x.within(-1, 0, 0);
    }

    @Sentence(of = P10, says = "how many (not dropped) are in it;")
    static void aGroupIsCountedUpTo200() {
        Trees x = new Trees().withEntries(200);
        for (int number = 200; number >= 1; number--) {
            x.within(0, number, 201 - number);
        }
        x.within(0, 200, 200);
        x.within(0, 0, 200);
        x.within(1, 0, 0);
        x.within(-1, 0, 200);
    }

    @Sentence(of = P10, says = "for entry 0: this group is looked at from now on")
    static void aGroupIsLookedAtFromNowOn() {
        Trees x = new Trees().with("a", "b");
        x.within(0, 1, 1);
        x.within(7, 2, 1);
        x.within(0, 0, 1);
        x.finds(1, 30);
        x.reading("a", 1).finds(1, 1);
        x.findsPlain(1, 1);
        x.entry(3);
        x.finds(1, 1);
        x.within(0, 3, 2);
        x.finds(1, 1, 3, 25);
        x.within(7, 0, 1);
        x.finds(2, 55);
        x.findsPlain();
    }

    @Sentence(of = P10, says = "for entry 0: this group is looked at from now on")
    static void aGroupWithoutEntriesMayBeLookedAt() {
        Trees x = new Trees();
        x.within(7, 0, 0);
        x.with("a");
        x.finds();
        x.within(7, 1, 1);
        x.finds(1, 30);
        x.drop(1, 0);
        x.finds();
    }

    @Sentence(of = P10, says = "(NONE: all):")
    static void withNoneAllAreLookedAt() {
        Trees x = new Trees().with("a", "b");
        x.within(-1, 0, 2);
        x.finds(1, 30, 2, 30);
        x.within(2, 0, 0);
        x.finds();
        x.within(-1, 0, 2);
        x.finds(1, 30, 2, 30);
        x.drop(1, 1);
        x.within(-1, 0, 1);
        x.finds(2, 30);
    }

    @Sentence(of = P10, says = "how many are in it (of all).")
    static void ofAllEntriesNotOnlyThoseThatAreFound() {
        Trees x = new Trees().with("a", "b", "zzzzzzzzzzzzzzzzzzzz", "d");
        x.abbreviation(1, 2, 1);
        x.within(6, 1, 1);
        x.within(6, 3, 2);
        x.within(6, 4, 3);
        x.within(6, 0, 3);
        x.finds(4, 30);
        x.within(5, 0, 0);
        x.within(-1, 0, 4);
        x.within(6, 0, 3);
        x.within(-1, 0, 4);
    }

    @Sentence(of = P10, says = "UNKNOWN")
    static void noGroupForWhatIsNoEntry() {
        Trees x = new Trees().withEntries(2);
        x.within(0, 1, 1);
        x.within(0, 2, 2);
        x.drop(2, 1);
        for (int entry : Trees.join(Trees.NO_ENTRIES, 2, 3, 200)) {
            x.within(0, entry, UNKNOWN);
        }
        x.within(0, 0, 1);
    }

    @Sentence(of = P10, says = "UNKNOWN")
    static void noEntryComesBeforeNoGroup() {
        Trees x = new Trees().withEntries(2);
        x.drop(2, 1);
        for (int group : Trees.join(Trees.NO_GROUPS, -1)) {
            x.within(group, 3, UNKNOWN);
            x.within(group, 2, UNKNOWN);
            x.within(group, -1, UNKNOWN);
            x.within(group, Integer.MIN_VALUE, UNKNOWN);
            x.within(group, Integer.MAX_VALUE, UNKNOWN);
        }
    }

    @Sentence(of = P10, says = "OUTSIDE (a group is not 0 .. 7;")
    static void aGroupIs0To7() {
        Trees x = new Trees().with("a");
        x.within(0, 1, 1);
        x.within(7, 1, 1);
        x.within(8, 1, OUTSIDE);
        x.within(0, 0, 1);
        x.within(7, 0, 1);
        x.within(8, 0, OUTSIDE);
        for (int group : Trees.NO_GROUPS) {
            x.within(group, 1, OUTSIDE);
            x.within(group, 0, OUTSIDE);
        }
        for (int group = 1; group < 7; group++) {
            x.within(group, 0, 0);
        }
    }

    @Sentence(of = P10, says = "-1 alone with entry 0).")
    static void minus1GoesWithEntry0Alone() {
        Trees x = new Trees().with("a", "b");
        x.within(-1, 1, OUTSIDE);
        x.within(3, 1, 1);
        x.within(3, 0, 1);
        x.within(-1, 1, OUTSIDE);
        x.within(-1, 2, OUTSIDE);
        x.finds(1, 30);
        x.within(-2, 0, OUTSIDE);
        x.finds(1, 30);
        x.within(-1, 0, 2);
        x.finds(1, 30, 2, 30);
    }

    @Sentence(of = P10, says = "UNKNOWN, OUTSIDE (a group is not 0 .. 7; -1 alone with entry 0).")
    static void refusedGroupsChangeNothing() {
        Twins.changesNothing(x -> {
            for (int group : Trees.NO_GROUPS) {
                x.within(group, 0, OUTSIDE);
            }
        });
        Twins.changesNothing(x -> {
            for (int group : Trees.join(Trees.NO_GROUPS, -1)) {
                x.within(group, Twins.PLAIN, OUTSIDE);
                x.within(group, Twins.SHORT_FORM, OUTSIDE);
            }
        });
        Twins.changesNothing(x -> {
            for (int group = 0; group < 8; group++) {
                x.within(group, Twins.DROPPED, UNKNOWN);
                x.within(group, Twins.NEXT, UNKNOWN);
                x.within(group, -1, UNKNOWN);
            }
        });
    }

    // Promise 11

    @Sentence(of = P11, says = "An entry is an abbreviation of another one from now on")
    static void anEntryIsAnAbbreviationFromNowOn() {
        Trees x = new Trees().with("abc", "z").reading("z", 1);
        x.finds(2, 1, 1, 115);
        x.abbreviation(2, 1, 1);
        x.tells(2, 1, 1, 115);
        x.finds(1, 1);
        x.findsPlain();
        x.clear(1);
        x.finds(1, 30);
    }

    @Sentence(of = P11, says = "(of that one alone):")
    static void anAbbreviationIsOfOneAlone() {
        Trees x = new Trees().with("a", "b", "c", "d").reading("a", 0);
        x.abbreviation(1, 2, 1);
        x.finds(2, 0, 3, 55, 4, 55);
        x.abbreviation(1, 3, 1);
        x.finds(3, 0, 2, 55, 4, 55);
        x.abbreviation(4, 2, 1);
        x.finds(3, 0, 2, 55);
        x.abbreviation(1, 2, 2);
        x.finds(2, 0, 3, 55);
        x.abbreviation(3, 2, 3);
        x.finds(2, 0);
    }

    @Sentence(of = P11, says = "how many that has;")
    static void theAbbreviationsOfOneAreCounted() {
        Trees x = new Trees().withEntries(6);
        x.abbreviation(1, 3, 1);
        x.abbreviation(5, 3, 2);
        x.abbreviation(1, 3, 2);
        x.abbreviation(2, 6, 1);
        x.abbreviation(5, 6, 2);
        x.abbreviation(1, 3, 1);
        x.drop(2, 5);
        x.abbreviation(1, 6, 2);
        x.abbreviation(3, 6, 3);
    }

    @Sentence(of = P11, says = "how many that has;")
    static void oneMayHave199() {
        Trees x = new Trees().withEntries(200);
        for (int entry = 2; entry <= 200; entry++) {
            x.abbreviation(entry, 1, entry - 1);
        }
        x.abbreviation(200, 1, 199);
        x.abbreviation(1, 200, STATE);
        x.finds(1, 0);
    }

    @Sentence(of = P11, says = "UNKNOWN")
    static void noAbbreviationOfWhatIsNoEntry() {
        Trees x = new Trees().withEntries(3);
        x.drop(2, 2);
        for (int entry : Trees.join(Trees.NO_ENTRIES, 0, 2, 4, 200)) {
            x.abbreviation(entry, 1, UNKNOWN);
            x.abbreviation(1, entry, UNKNOWN);
        }
        x.abbreviation(1, 3, 1);
    }

    @Sentence(of = P11, says = "UNKNOWN")
    static void noEntryComesBeforeState() {
        Trees x = new Trees().withEntries(4);
        x.abbreviation(1, 2, 1);
        x.drop(4, 3);
        for (int entry : Trees.join(Trees.NO_ENTRIES, 0, 4, 5, 200)) {
            x.abbreviation(entry, entry, UNKNOWN);
            x.abbreviation(entry, 1, UNKNOWN);
            x.abbreviation(2, entry, UNKNOWN);
        }
    }

    @Sentence(of = P11, says = "STATE (they are the same")
    static void noneIsAnAbbreviationOfItself() {
        Trees x = new Trees().withEntries(3);
        x.abbreviation(1, 1, STATE);
        x.abbreviation(3, 3, STATE);
        x.abbreviation(1, 2, 1);
        x.abbreviation(1, 1, STATE);
        x.abbreviation(2, 2, STATE);
        x.abbreviation(1, 2, 1);
        x.finds(2, 0, 3, 0);
    }

    @Sentence(of = P11, says = "the other one is an abbreviation")
    static void noneIsAnAbbreviationOfAnAbbreviation() {
        Trees x = new Trees().withEntries(3);
        x.abbreviation(1, 2, 1);
        x.abbreviation(3, 1, STATE);
        x.finds(2, 0, 3, 0);
        x.drop(2, 2);
        x.abbreviation(3, 1, 1);
        x.finds(1, 0);
    }

    @Sentence(of = P11, says = "or the entry has some).")
    static void noneThatHasSomeIsAnAbbreviation() {
        Trees x = new Trees().withEntries(4);
        x.abbreviation(1, 2, 1);
        x.abbreviation(3, 2, 2);
        x.abbreviation(2, 4, STATE);
        x.drop(1, 3);
        x.abbreviation(2, 4, STATE);
        x.finds(2, 0, 4, 0);
        x.drop(3, 2);
        x.abbreviation(2, 4, 1);
        x.finds(4, 0);
    }

    @Sentence(of = P11, says = "or the entry has some).")
    static void whatAnAbbreviationLeftHasNoneAnyMore() {
        Trees x = new Trees().withEntries(3);
        x.abbreviation(1, 2, 1);
        x.abbreviation(2, 1, STATE);
        x.abbreviation(2, 3, STATE);
        x.abbreviation(1, 3, 1);
        x.abbreviation(2, 3, 2);
        x.finds(3, 0);
    }

    @Sentence(of = P11, says = "UNKNOWN, STATE (they are the same, the other one is an abbreviation, or the entry has some).")
    static void refusedAbbreviationsChangeNothing() {
        Twins.changesNothing(x -> {
            for (int entry : new int[] {0, -1, Twins.NEXT, Twins.DROPPED, Integer.MIN_VALUE, Integer.MAX_VALUE}) {
                x.abbreviation(entry, Twins.PLAIN, UNKNOWN);
                x.abbreviation(Twins.PLAIN, entry, UNKNOWN);
                x.abbreviation(Twins.SHORT_FORM, entry, UNKNOWN);
                x.abbreviation(entry, entry, UNKNOWN);
            }
        });
        Twins.changesNothing(x -> {
            x.abbreviation(Twins.PLAIN, Twins.PLAIN, STATE);
            x.abbreviation(Twins.SHORT_FORM, Twins.SHORT_FORM, STATE);
            x.abbreviation(Twins.FULL_FORM, Twins.FULL_FORM, STATE);
        });
        Twins.changesNothing(x -> x.abbreviation(Twins.PLAIN, Twins.SHORT_FORM, STATE));
        Twins.changesNothing(x -> {
            x.abbreviation(Twins.FULL_FORM, Twins.PLAIN, STATE);
            x.abbreviation(Twins.FULL_FORM, Twins.SHORT_FORM, STATE);
        });
    }

    // Promise 12

    @Sentence(of = P12, says = "How many entries that may be FOUND")
    static void plainCountsWhatMayBeFound() {
        Trees x = new Trees().with("a", "a", "a", "a").reading("a", 5);
        x.findsPlain(1, 5, 2, 5, 3, 5, 4, 5);
        x.drop(1, 3);
        x.findsPlain(2, 5, 3, 5, 4, 5);
        x.abbreviation(3, 4, 1);
        x.findsPlain(2, 5, 4, 5);
        x.within(1, 2, 1);
        x.within(1, 3, 2);
        x.within(1, 0, 2);
        x.findsPlain(2, 5);
        x.within(0, 0, 0);
        x.findsPlain();
    }

    @Sentence(of = P12, says = "How many entries that may be FOUND")
    static void plainOfNoneAndOf200() {
        Trees x = new Trees();
        x.findsPlain();
        x.cost(0, 'a', 0, 1);
        x.findsPlain();
        Trees y = new Trees().withEntries(200);
        y.plain(200, 200);
        y.word(199, 200);
        y.sum(199, 0);
        y.word(200, UNKNOWN);
        y.plain(1000, 200);
        y.plain(1, 200);
        y.word(0, 1);
        y.word(1, UNKNOWN);
        y.letter(200, 'a', 1);
        y.plain(1000, 199);
        y.word(198, 199);
        y.word(199, UNKNOWN);
    }

    @Sentence(of = P12, says = "whatever their sums,")
    static void plainCountsSumsAbove400Too() {
        Trees x = new Trees().with("aaaaaaaaaaaaaaaaaaaa", "aaaaaaaaaaaaaaaaaaaa");
        x.reading("aaaaaaaaaaaaaaaaaaaa", 20).findsPlain(1, 400, 2, 400);
        x.cost(0, 'a', 21, 20);
        x.findsPlain(1, 401, 2, 401);
        x.finds();
        x.reading("aaaaaaaaaaaaaaaaaaaa", 1000).findsPlain(1, 1100, 2, 1100);
        x.finds();
    }

    @Sentence(of = P12, says = "are by their own signs (not those of abbreviations)")
    static void anAbbreviationsSignsMakeNoEntryPlain() {
        Trees x = new Trees().with("abcd", "ab", "ab", "x");
        x.abbreviation(2, 1, 1);
        x.abbreviation(4, 3, 1);
        x.reading("ab", 1);
        x.findsPlain(3, 2);
        x.finds(1, 2, 3, 2);
    }

    @Sentence(of = P12, says = "just one sign of each place,")
    static void aPlainEntryHasOneSignOfEachPlace() {
        Trees x = new Trees().with("a", "ab", "abc", "aab", "xb", "").reading("ab", 0);
        x.findsPlain(2, 0);
        x.reading("a", 0).findsPlain(1, 0);
        x.reading("aab", 0).findsPlain(4, 0);
        x.reading("abc", 0).findsPlain(3, 0);
        x.reading("abcd", 0).findsPlain();
    }

    @Sentence(of = P12, says = "just one sign of each place,")
    static void whenNothingIsReadAnEntryWithoutSignsIsPlain() {
        Trees x = new Trees().with("a", "", "b", "");
        x.findsPlain(2, 0, 4, 0);
        x.cost(0, 'a', 0, 1);
        x.findsPlain(1, 0);
    }

    @Sentence(of = P12, says = "just one sign of each place,")
    static void aPlaceWithoutSignsMakesNonePlain() {
        Trees x = new Trees().with("aba", "aa", "aaa");
        x.cost(0, 'a', 0, 1);
        x.cost(2, 'a', 0, 3);
        x.findsPlain();
        x.cost(1, 'b', 0, 3);
        x.findsPlain(1, 0);
    }

    @Sentence(of = P12, says = "just one sign of each place,")
    static void the20thPlaceCountsToo() {
        Trees x = new Trees().with("abcdefghijklmnopqrst", "abcdefghijklmnopqrsu", "abcdefghijklmnopqrs");
        x.reading("abcdefghijklmnopqrs", 0).findsPlain(3, 0);
        x.cost(19, 't', 4, 20);
        x.findsPlain(1, 4);
        x.cost(19, 'u', 3, 20);
        x.findsPlain(1, 4, 2, 3);
    }

    @Sentence(of = P12, says = "whichever was told,")
    static void anyToldSignWillDoWhateverItsCost() {
        Trees x = new Trees().with("ac", "ad", "bc", "bd", "be", "!~");
        x.cost(0, 'a', 0, 1);
        x.cost(0, 'b', 1000, 1);
        x.cost(1, 'c', 0, 2);
        x.cost(1, 'd', 50, 2);
        x.findsPlain(1, 0, 2, 50, 3, 55, 4, 105);
        x.cost(1, 'e', 0, 2);
        x.cost(0, '!', 1, 2);
        x.cost(1, '~', 1, 2);
        x.findsPlain(1, 0, 2, 50, 3, 55, 4, 105, 5, 55, 6, 2);
    }

    @Sentence(of = P12, says = "one behind the other;")
    static void theSignsComeOneBehindTheOther() {
        Trees x = new Trees().with("abc", "acb", "bac", "cba", "abc").reading("abc", 0);
        x.findsPlain(1, 0, 5, 0);
        x.reading("cba", 0).findsPlain(4, 0);
    }

    @Sentence(of = P12, says = "the first k by numbers come as word tells")
    static void theFirstKByNumbersAreTold() {
        Trees x = new Trees().with("b", "q", "a", "a", "b");
        x.cost(0, 'a', 1, 1);
        x.cost(0, 'b', 2, 1);
        x.plain(4, 4);
        x.tells(1, 2, 3, 1, 4, 1, 5, 2);
        x.plain(5, 4);
        x.tells(1, 2, 3, 1, 4, 1, 5, 2);
        x.plain(3, 4);
        x.tells(1, 2, 3, 1, 4, 1);
        x.plain(1, 4);
        x.tells(1, 2);
        x.find(5, 5);
        x.tells(3, 1, 4, 1, 1, 2, 5, 2, 2, 55);
        x.plain(2, 4);
        x.tells(1, 2, 3, 1);
    }

    @Sentence(of = P12, says = "the first k by numbers come as word tells")
    static void noneIsToldWhenNoneIsPlain() {
        Trees x = new Trees().with("a");
        x.find(1, 1);
        x.cost(0, 'b', 0, 1);
        x.plain(1, 0);
        x.tells();
    }

    @Sentence(of = P12, says = "(with sums as ever).")
    static void plainTellsTheLeastSumsAsFindDoes() {
        Trees x = new Trees().with("ab", "c", "ab").reading("ab", 20);
        x.findsPlain(1, 40, 3, 40);
        x.cost(0, 'c', 1, 2);
        x.abbreviation(2, 1, 1);
        x.findsPlain(1, 26, 3, 40);
        x.cost(0, 'a', 700, 2);
        x.findsPlain(1, 26, 3, 75);
        x.letter(2, 'z', 2);
        x.findsPlain(1, 56, 3, 75);
        x.drop(2, 2);
        x.findsPlain(1, 75, 3, 75);
    }

    @Sentence(of = P12, says = "OUTSIDE when k is not 1 .. 1000.")
    static void kIs1To1000ForPlain() {
        Trees x = new Trees().withEntries(2);
        x.plain(0, OUTSIDE);
        x.plain(1, 2);
        x.plain(2, 2);
        x.plain(999, 2);
        x.plain(1000, 2);
        x.plain(1001, OUTSIDE);
        for (int k : Trees.NO_KS) {
            x.plain(k, OUTSIDE);
        }
        new Trees().plain(0, OUTSIDE);
        new Trees().plain(1001, OUTSIDE);
    }

    @Sentence(of = P12, says = "OUTSIDE when k is not 1 .. 1000.")
    static void refusedPlainsChangeNothing() {
        Twins.changesNothing(x -> {
            for (int k : Trees.NO_KS) {
                x.plain(k, OUTSIDE);
            }
        });
        Trees x = new Trees().with("", "");
        x.plain(0, OUTSIDE);
        x.tells();
        x.plain(1, 2);
        x.letter(1, 'b', 1);
        x.plain(1001, OUTSIDE);
        x.tells(1, 0);
    }

    public static void main(String[] args) throws IOException {
        Sentences.run(Promises7To12Tests.class, P7, P8, P9, P10, P11, P12);
    }
}
