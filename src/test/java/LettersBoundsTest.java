/** Sentences about letters and opening them (promises 17 and 18). */
public final class LettersBoundsTest {
    private static final int NONE = WalkHouses.NONE, BAD = WalkHouses.BAD, NOT = WalkHouses.NOT, FULL = WalkHouses.FULL;
    private static final Check check = new Check();

    private static void due(String what, long got, long want) {
        check.due(what, got, want);
    }

    public static void main(String[] args) {
        fortyLetters();
        openedOnesCount();
        marksAndDays();
        chainsThatAreAsked();
        upToADay();
        byMarks();
        likeMarks();
        severalForOne();
        stillAsked();
        wholeOrNotAtAll();
        firstNightAheadOfNow();
        nothingToOpen();
        check.end();
    }

    private static void fortyLetters() {
        check.sentence("17: LETTERS, 40 at most: how many; FULL");
        WalkHouses x = Scenes.houses(1, 9);
        for (int k = 0; k < 40; k++) {
            x.chain(1, k % 8, 0);
        }
        for (int n = 1; n <= 40; n++) {
            due("how many", x.letter(n - 1, 0, 0), n);
            due("not opened", x.count(4), n);
        }
        due("the next", x.letter(0, 0, 0), FULL);
        due("not opened", x.count(4), 40);
        due("all forty are given", x.open(0), 40);
        due("the last one too", x.about(39, 3), 1);
    }

    private static void openedOnesCount() {
        check.sentence("17: LETTERS, 40 at most: opened ones are LETTERS too");
        WalkHouses x = Scenes.houses(1, 9);
        int big = x.chain(12, 0, 0);
        int small = x.chain(1, 0, 0);
        due("the first", x.letter(big, 0, 0), 1);
        x.open(0);
        for (int n = 2; n <= 40; n++) {
            due("how many", x.letter(small, 0, 0), n);
        }
        due("full", x.letter(small, 0, 0), FULL);
        due("not opened", x.count(4), 39);
    }

    private static void marksAndDays() {
        check.sentence("17: MARK (a day, 0 to 999) and come on a day (not ahead of it)");
        WalkHouses x = Scenes.houses(1, 9);
        int k = x.chain(1, 0, 0);
        due("mark -1", x.letter(k, -1, 5), BAD);
        due("mark 0, day 0", x.letter(k, 0, 0), 1);
        due("mark 0, day 999", x.letter(k, 0, 999), 2);
        due("mark 999, day 999", x.letter(k, 999, 999), 3);
        due("mark 999, day 1000", x.letter(k, 999, 1000), BAD);
        due("mark 1000, day 1000", x.letter(k, 1000, 1000), BAD);
        due("mark 999, day 998", x.letter(k, 999, 998), BAD);
        due("mark 1, day 0", x.letter(k, 1, 0), BAD);
        due("mark 0, day -1", x.letter(k, 0, -1), BAD);
        due("mark -2, day -1", x.letter(k, -2, -1), BAD);
        due("three", x.count(4), 3);
    }

    private static void chainsThatAreAsked() {
        check.sentence("17: NOT: it is not ASKED");
        WalkHouses x = Scenes.houses(1, 2);
        int missed = x.chain(1, 0, 0);
        int given = Scenes.givenOf(x, 1, 0, 0);
        x.pass();
        due("asked, though its first night passed", x.letter(missed, 0, 0), 1);
        due("gone", x.letter(given, 0, 0), NOT);
        int later = Scenes.givenOf(x, 1, 3, 0);
        due("given", x.letter(later, 0, 0), NOT);
        x.giveUp(later);
        due("refused", x.letter(later, 0, 0), NOT);
    }

    private static void upToADay() {
        check.sentence("18: OPENING all that came up to a day (0 to 999)");
        WalkHouses x = Scenes.houses(1, 9);
        int[] days = {0, 5, 6, 999};
        for (int n = 0; n < days.length; n++) {
            x.letter(x.chain(1, 3, 0), 0, days[n]);
        }
        due("day -1", x.open(-1), BAD);
        due("day 1000", x.open(1000), BAD);
        due("four", x.count(4), 4);
        due("day 0", x.open(0), 1);
        due("the day ahead", x.open(4), 0);
        due("the day itself", x.open(5), 1);
        due("two", x.count(4), 2);
        due("it is not opened yet", x.about(2, 3), 0);
        due("the day ahead of the last", x.open(998), 1);
        due("the last", x.open(999), 1);
        due("none", x.count(4), 0);
        due("an earlier day again", x.open(0), 0);
    }

    private static void byMarks() {
        check.sentence("18: by MARKS");
        WalkHouses x = Scenes.houses(1, 1);
        int[] marks = {500, 999, 1, 2, 0};
        int[] days = {500, 999, 700, 2, 999};
        for (int n = 0; n < marks.length; n++) {
            x.letter(x.chain(1, 3, 0), marks[n], days[n]);
        }
        due("one bed", x.open(700), 1);
        due("the least mark of those that came", x.about(2, 3), 1);
        due("the greater one is refused", x.about(3, 3), 2);
        due("the first told is refused", x.about(0, 3), 2);
        due("a lesser mark that came later waits", x.about(4, 3), 0);
        due("all are opened", x.open(999), 0);
        due("refused", x.about(4, 3), 2);
        due("refused", x.about(1, 3), 2);
    }

    private static void likeMarks() {
        check.sentence("18: of like ones as they were told");
        WalkHouses x = Scenes.houses(1, 2);
        for (int k = 0; k < 4; k++) {
            x.chain(1, 3, 0);
        }
        x.letter(3, 7, 30);
        x.letter(1, 7, 10);
        x.letter(0, 7, 7);
        x.letter(2, 7, 20);
        due("two beds", x.open(30), 2);
        due("the first told, though it came last", x.about(3, 3), 1);
        due("the second told", x.about(1, 3), 1);
        due("the third told, though it came first", x.about(0, 3), 2);
        due("the last", x.about(2, 3), 2);
    }

    private static void severalForOne() {
        check.sentence("18: each CHAIN that is still ASKED is GIVEN or REFUSED: once");
        WalkHouses x = Scenes.houses(1, 3);
        int k = x.chain(2, 3, 0);
        int rival = x.chain(2, 3, 0);
        x.letter(k, 9, 9);
        x.letter(rival, 5, 5);
        x.letter(k, 1, 1);
        due("one is given", x.open(9), 1);
        due("by its least mark", x.about(k, 3), 1);
        due("the rival is refused", x.about(rival, 3), 2);
        due("it lies there once", x.free(0, NONE, 3), 1);
        due("all are opened", x.count(4), 0);
        int small = x.chain(1, 3, 0);
        x.letter(small, 0, 0);
        x.letter(small, 0, 0);
        due("counted once", x.open(0), 1);
    }

    private static void stillAsked() {
        check.sentence("18: each CHAIN that is still ASKED");
        WalkHouses x = Scenes.houses(1, 3);
        int given = x.chain(1, 3, 0);
        int givenUp = x.chain(1, 3, 0);
        int without = x.chain(1, 3, 0);
        x.letter(given, 0, 0);
        x.letter(givenUp, 0, 0);
        x.give(given);
        x.take(givenUp);
        x.giveUp(givenUp);
        due("none is given by a letter", x.open(999), 0);
        due("given stays", x.about(given, 3), 1);
        due("refused stays", x.about(givenUp, 3), 2);
        due("without a letter it is asked", x.about(without, 3), 0);
        due("one lies there", x.free(0, NONE, 3), 2);
    }

    private static void wholeOrNotAtAll() {
        check.sentence("18: GIVEN, if its WAY is OPEN; else REFUSED: no OTHER WAY is taken");
        WalkHouses x = Scenes.joinedHouses(3, 2);
        x.shut(1, 4, 4);
        int barred = Scenes.chainOf(x, 1, 3, 0, 1, 0);
        int open = Scenes.chainOf(x, 2, 3, 0, 2, 0);
        x.letter(barred, 0, 0);
        x.letter(open, 1, 1);
        due("there is another way", x.other(barred), 1);
        due("one is given", x.open(1), 1);
        due("refused all the same", x.about(barred, 3), 2);
        due("not laid in its first", x.about(barred, 20), 0);
        due("the next has all beds", x.about(open, 3), 1);
        for (int i = 0; i < 3; i++) {
            due("laid in night " + i, x.laid(open, i, 0), 2);
        }
    }

    private static void firstNightAheadOfNow() {
        check.sentence("18: One whose first NIGHT is ahead of now is REFUSED");
        WalkHouses x = Scenes.houses(1, 3);
        int ahead = Scenes.chainOf(x, 1, 4, 0, 0, 0);
        int now = x.chain(1, 5, 0);
        x.letter(ahead, 0, 0);
        x.letter(now, 0, 0);
        Scenes.passes(x, 5);
        due("asked till its letter is opened", x.about(ahead, 3), 0);
        due("the one of now", x.open(0), 1);
        due("given", x.about(now, 3), 1);
        due("refused", x.about(ahead, 3), 2);
        due("not laid", x.free(0, NONE, 6), 3);
        due("it arrives", x.arrive(now), 1);
    }

    private static void nothingToOpen() {
        check.sentence("18: OPENING, where no LETTER is");
        WalkHouses x = new WalkHouses();
        due("day 0", x.open(0), 0);
        due("day 999", x.open(999), 0);
        due("not opened", x.count(4), 0);
    }
}
