import java.util.function.Consumer;

/**
 * NOT and FULL in each case that the document names; of a call that several refusals fit the first
 * one; and calls that answer without a change. None of these changes anything.
 */
public final class RefusalsTest {
    private static final int NONE = WalkHouses.NONE, BAD = WalkHouses.BAD, NOT = WalkHouses.NOT, FULL = WalkHouses.FULL;
    private static final Check check = new Check();
    private static final Twins twins = new Twins(check);

    public static void main(String[] args) {
        twiceAndItself();
        notAsked();
        notGiveable();
        notGivenUp();
        notLaidNow();
        full();
        badAheadOfNot();
        badAheadOfFullHouses();
        badAheadOfFullChains();
        badAheadOfFullLettersAndLines();
        notAheadOfFull();
        barred();
        questions();
        check.end();
    }

    private static void village(int due, String name, int... numbers) {
        in(Scenes::village, due, name, numbers);
    }

    private static void in(Consumer<WalkHouses> story, int due, String name, int... numbers) {
        twins.changesNothing(story, new Call(name, numbers), due);
    }

    private static void twiceAndItself() {
        check.sentence("BAD: also one that is there");
        village(BAD, "stage", 0, 1, 12);
        village(BAD, "stage", 1, 0, 12);
        village(BAD, "stage", 0, 1, 13);
        check.sentence("BAD: from a HOUSE to itself");
        village(BAD, "stage", 0, 0, 5);
        village(BAD, "stage", 3, 3, 5);
        check.sentence("BEDS (not all 0)");
        village(BAD, "house", 0, 0, 0, 5);
        check.sentence("BAD: from above to");
        village(BAD, "shut", 2, 4, 3);
        village(BAD, "shut", 2, 39, 3);
        check.sentence("BAD: NIGHTS not behind now");
        in(Scenes::lastNight, BAD, "shut", 2, 39, 39);
        in(Scenes::lastNight, BAD, "shut", 2, 40, 40);
        village(BAD, "shut", 2, 0, 1);
        village(BAD, "shut", 2, 1, 5);
        check.sentence("BAD: also beyond NIGHT 39");
        village(BAD, "add", Scenes.ASKED_TO_39, 0);
    }

    private static void notAsked() {
        check.sentence("NOT: it is not ASKED");
        int[] chains = {Scenes.GONE, Scenes.SLEEPER, Scenes.LATE, Scenes.TO_COME, Scenes.GIVEN_UP, Scenes.BY_LETTER};
        for (int k : chains) {
            village(NOT, "add", k, 0);
            village(NOT, "letter", k, 1, 1);
        }
    }

    private static void notGiveable() {
        int[] chains = {Scenes.GONE, Scenes.SLEEPER, Scenes.LATE, Scenes.TO_COME, Scenes.GIVEN_UP, Scenes.BY_LETTER,
            Scenes.MISSED};
        for (int k : chains) {
            check.sentence("NOT: it is not ASKED, or its first NIGHT is ahead of now");
            village(NOT, "give", k);
            check.sentence("NOT as give()");
            village(NOT, "other", k);
            village(NOT, "offered", k, 0);
            village(NOT, "take", k);
        }
    }

    private static void notGivenUp() {
        check.sentence("NOT: it is not GIVEN");
        int[] notGiven = {Scenes.GONE, Scenes.GIVEN_UP, Scenes.ASKED, Scenes.MISSED};
        for (int k : notGiven) {
            village(NOT, "giveUp", k);
        }
        check.sentence("NOT: its first NIGHT is not behind now");
        village(NOT, "giveUp", Scenes.LATE);
        village(NOT, "giveUp", Scenes.SLEEPER);
    }

    private static void notLaidNow() {
        check.sentence("NOT: it is not LAID now");
        int[] notLaid = {Scenes.GONE, Scenes.TO_COME, Scenes.GIVEN_UP, Scenes.ASKED, Scenes.MISSED};
        for (int k : notLaid) {
            village(NOT, "arrive", k);
        }
        in(RefusalsTest::bedsLost, NOT, "arrive", Scenes.LATE);
        check.sentence("NOT: it did ARRIVE");
        village(NOT, "arrive", Scenes.SLEEPER);
        check.sentence("NOT: it is SHUT now");
        in(Scenes::shutNow, NOT, "door", 2, 1, 23);
        in(Scenes::shutNow, NOT, "door", 2, 9, 0);
    }

    /** Of house 3 nine walkers take all beds, those of the late chain too. */
    private static void bedsLost(WalkHouses x) {
        Scenes.village(x);
        x.door(3, 9, 0);
    }

    private static void full() {
        check.sentence("HOUSES 12 at most; FULL");
        in(Scenes::fullOfHouses, FULL, "house", 1, 1, 1, 1);
        check.sentence("STAGES, 40 at most; FULL");
        in(Scenes::fullOfStages, FULL, "stage", 10, 11, 1);
        check.sentence("CHAINS 40 at most; FULL");
        in(Scenes::fullOfChains, FULL, "chain", 1, 5, 0);
        check.sentence("FULL: 7");
        village(FULL, "add", Scenes.ASKED_SEVEN, 3);
        check.sentence("LETTERS, 40 at most; FULL");
        in(Scenes::fullOfLetters, FULL, "letter", Scenes.ASKED, 1, 1);
        check.sentence("lists, 20 at most; FULL");
        in(Scenes::fullOfLines, FULL, "list", 1, 1);
        check.sentence("FULL: it is NIGHT 39");
        in(Scenes::lastNight, FULL, "pass");
    }

    private static void badAheadOfNot() {
        check.sentence("Refusals, the first that fits: BAD, NOT");
        village(BAD, "add", Scenes.TO_COME, 4);
        village(BAD, "add", Scenes.TO_COME, -1);
        village(BAD, "add", Scenes.GIVEN_TO_39, 0);
        village(BAD, "offered", Scenes.TO_COME, 3);
        village(BAD, "offered", Scenes.TO_COME, -1);
        village(BAD, "offered", Scenes.MISSED, 2);
        village(BAD, "letter", Scenes.TO_COME, -1, 5);
        village(BAD, "letter", Scenes.TO_COME, 5, 4);
        village(BAD, "letter", Scenes.TO_COME, 5, 1000);
        village(BAD, "letter", Scenes.TO_COME, 1000, 1000);
        in(Scenes::shutNow, BAD, "door", 2, 0, 12);
        in(Scenes::shutNow, BAD, "door", 2, 10, 12);
        in(Scenes::shutNow, BAD, "door", 2, 1, -1);
        in(Scenes::shutNow, BAD, "door", 2, 1, 24);
    }

    private static void badAheadOfFullHouses() {
        check.sentence("Refusals, the first that fits: BAD, FULL");
        in(Scenes::fullOfHouses, BAD, "house", 0, 0, 0, 1);
        in(Scenes::fullOfHouses, BAD, "house", -1, 1, 1, 1);
        in(Scenes::fullOfHouses, BAD, "house", 1, 10, 1, 1);
        in(Scenes::fullOfHouses, BAD, "house", 1, 1, 10, 1);
        in(Scenes::fullOfHouses, BAD, "house", 1, 1, 1, 24);
        in(Scenes::fullOfStages, BAD, "stage", 10, 12, 1);
        in(Scenes::fullOfStages, BAD, "stage", -1, 11, 1);
        in(Scenes::fullOfStages, BAD, "stage", 10, 11, 0);
        in(Scenes::fullOfStages, BAD, "stage", 10, 11, 41);
        in(Scenes::fullOfStages, BAD, "stage", 10, 10, 1);
        in(Scenes::fullOfStages, BAD, "stage", 1, 0, 1);
    }

    private static void badAheadOfFullChains() {
        check.sentence("Refusals, the first that fits: BAD, FULL");
        in(Scenes::fullOfChains, BAD, "chain", 0, 5, 0);
        in(Scenes::fullOfChains, BAD, "chain", 13, 5, 0);
        in(Scenes::fullOfChains, BAD, "chain", 1, 1, 0);
        in(Scenes::fullOfChains, BAD, "chain", 1, 40, 0);
        in(Scenes::fullOfChains, BAD, "chain", 1, 5, 4);
        village(BAD, "add", Scenes.ASKED_SEVEN, 4);
        village(BAD, "add", Scenes.ASKED_SEVEN, -1);
        in(RefusalsTest::sevenTo39, BAD, "add", Scenes.VILLAGE_CHAINS, 0);
    }

    private static void sevenTo39(WalkHouses x) {
        Scenes.village(x);
        Scenes.chainOf(x, 1, 33, 3, 3, 3, 3, 3, 3, 3);
    }

    private static void givenSevenTo39(WalkHouses x) {
        Scenes.village(x);
        Scenes.givenOf(x, 1, 33, 0, 0, 0, 0, 0, 0, 0);
    }

    private static void badAheadOfFullLettersAndLines() {
        check.sentence("Refusals, the first that fits: BAD, FULL");
        in(Scenes::fullOfLetters, BAD, "letter", Scenes.VILLAGE_CHAINS, 1, 1);
        in(Scenes::fullOfLetters, BAD, "letter", Scenes.ASKED, -1, 1);
        in(Scenes::fullOfLetters, BAD, "letter", Scenes.ASKED, 2, 1);
        in(Scenes::fullOfLetters, BAD, "letter", Scenes.ASKED, 1, 1000);
        in(Scenes::fullOfLines, BAD, "list", -1, 1);
        in(Scenes::fullOfLines, BAD, "list", 40, 1);
        in(Scenes::fullOfLines, BAD, "list", 1, -1);
        in(Scenes::fullOfLines, BAD, "list", 1, 101);
    }

    private static void notAheadOfFull() {
        check.sentence("Refusals, the first that fits: NOT, FULL");
        village(NOT, "add", Scenes.GIVEN_SEVEN, 3);
        in(Scenes::fullOfLetters, NOT, "letter", Scenes.TO_COME, 1, 1);
        in(Scenes::fullOfLetters, NOT, "letter", Scenes.GONE, 1, 1);
        in(Scenes::fullOfLetters, NOT, "letter", Scenes.GIVEN_UP, 1, 1);
        check.sentence("Refusals, the first that fits: BAD, NOT, FULL");
        village(BAD, "add", Scenes.GIVEN_SEVEN, 4);
        in(RefusalsTest::givenSevenTo39, BAD, "add", Scenes.VILLAGE_CHAINS, 0);
        in(Scenes::fullOfLetters, BAD, "letter", Scenes.GONE, 2, 1);
    }

    /** Calls that are no refusals, but give, lay and change nothing. */
    private static void barred() {
        check.sentence("the first NIGHT that bars it (it stays ASKED)");
        village(1, "give", Scenes.BARRED);
        village(1, "give", Scenes.WITHOUT_WAY);
        check.sentence("take: NONE: there is none");
        village(NONE, "take", Scenes.WITHOUT_WAY);
        check.sentence("they are turned away");
        village(NONE, "door", 1, 2, 19);
        village(NONE, "door", 1, 9, 23);
        village(NONE, "door", 2, 4, 23);
        check.sentence("OPENING all that came up to a day: none did");
        village(0, "open", 2);
    }

    private static void questions() {
        check.sentence("a question changes nothing");
        village(0, "other", Scenes.ASKED);
        village(1, "other", Scenes.BARRED);
        village(NONE, "other", Scenes.WITHOUT_WAY);
        village(0, "offered", Scenes.BARRED, 1);
        village(NONE, "offered", Scenes.WITHOUT_WAY, 1);
        village(5, "free", 0, NONE, 2);
        village(2, "free", 0, 0, 2);
        village(1, "isShut", 3, 30);
        village(3, "about", Scenes.GONE, 3);
        village(3, "laid", Scenes.LATE, 0, 2);
        village(4, "suppers", 3, 2);
        village(2, "count", 3);
    }
}
