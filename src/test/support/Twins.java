import java.util.List;
import java.util.function.Consumer;

/** Two objects with the same calls, but for refused ones: whatever they are asked, they answer the same. */
final class Twins {
    static final int PLAIN = 1, FULL_FORM = 2, SHORT_FORM = 3, DROPPED = 4, FULL = 5, EMPTY = 6, OTHER = 7;
    /** How many the scenes make, and the number that the next one would have. */
    static final int ENTRIES = 7, NEXT = 8;

    private Twins() {
    }

    /** The calls, each with its refusal, change nothing in an object that holds something of everything. */
    static void changesNothing(Consumer<Trees> refused) {
        compare(Twins::looking, refused);
        compare(Twins::lookingAtAll, refused);
        compare(Twins::readingNothing, refused);
    }

    private static void compare(Consumer<Trees> scene, Consumer<Trees> refused) {
        Trees asked = new Trees();
        Trees twin = new Trees();
        scene.accept(asked);
        scene.accept(twin);
        refused.accept(asked);
        List<String> got = asked.allAnswers(ENTRIES);
        List<String> due = twin.allAnswers(ENTRIES);
        for (int i = 0; i < due.size(); i++) {
            Sentences.due("answer " + i + " behind the refused calls", got.get(i), due.get(i));
        }
    }

    private static void looking(Trees x) {
        entries(x);
        read(x);
        x.within(0, 0, 4);
        x.find(2, 2);
        x.tells(FULL_FORM, 33, PLAIN, 58);
    }

    private static void lookingAtAll(Trees x) {
        entries(x);
        read(x);
        x.plain(1, 0);
        x.find(3, 3);
    }

    private static void readingNothing(Trees x) {
        entries(x);
        x.within(7, 0, 1);
        x.plain(5, 0);
    }

    private static void entries(Trees x) {
        x.with("ab", "abc", "b", "zz", "abcdefghijklmnopqrst", "", "xb");
        x.within(0, PLAIN, 1);
        x.within(7, PLAIN, 1);
        x.within(0, FULL_FORM, 2);
        x.within(0, DROPPED, 3);
        x.within(0, EMPTY, 4);
        x.within(0, OTHER, 5);
        x.within(3, SHORT_FORM, 1);
        x.abbreviation(SHORT_FORM, FULL_FORM, 1);
        x.drop(DROPPED, 6);
    }

    /** Place 2 is without signs. */
    private static void read(Trees x) {
        x.cost(0, 'a', 5, 1);
        x.cost(0, 'x', 9, 1);
        x.cost(1, 'b', 3, 2);
        x.cost(3, 'c', 0, 4);
    }
}
