/** Promises 17 and 18. */
public final class LettersTest {
    private static final int NONE = WalkHouses.NONE, BAD = WalkHouses.BAD, NOT = WalkHouses.NOT, FULL = WalkHouses.FULL;
    private static final Check check = new Check();

    private static void due(String what, long got, long want) {
        check.due(what, got, want);
    }

    public static void main(String[] args) {
        letter();
        letterFull();
        openByMarks();
        openLikeMarks();
        openLateAndTwice();
        check.end();
    }

    private static void letter() {
        WalkHouses x = new WalkHouses();
        x.house(4, 0, 0, 0);
        due("17 no such chain", x.letter(0, 0, 0), BAD);
        int k = x.chain(1, 0, 0);
        due("17 chain -1", x.letter(-1, 0, 0), BAD);
        due("17 mark -1", x.letter(k, -1, 0), BAD);
        due("17 mark 1000", x.letter(k, 1000, 1000), BAD);
        due("17 day 1000", x.letter(k, 5, 1000), BAD);
        due("17 day ahead of mark", x.letter(k, 5, 4), BAD);
        due("17 day of the mark", x.letter(k, 5, 5), 1);
        due("17 the edges", x.letter(k, 0, 999), 2);
        due("17 count", x.count(4), 2);
        x.give(k);
        due("17 BAD goes ahead of NOT", x.letter(k, 5, 4), BAD);
        due("17 it is not asked", x.letter(k, 5, 5), NOT);
    }

    private static void letterFull() {
        WalkHouses x = new WalkHouses();
        x.house(4, 0, 0, 0);
        int k = x.chain(5, 0, 0);
        int given = x.chain(1, 0, 0);
        x.give(given);
        int last = x.chain(1, 0, 0);
        for (int n = 1; n <= 40; n++) {
            due("17 how many", x.letter(k, n, n), n);
        }
        due("17 NOT goes ahead of FULL", x.letter(given, 0, 0), NOT);
        due("17 full", x.letter(last, 0, 0), FULL);
        due("18 none is given", x.open(999), 0);
        due("18 refused", x.about(k, 3), 2);
        due("18 all are opened", x.count(4), 0);
        due("17 opened ones count", x.letter(last, 0, 0), FULL);
    }

    private static void openByMarks() {
        WalkHouses x = new WalkHouses();
        x.house(3, 0, 0, 0);
        for (int k = 0; k < 4; k++) {
            x.chain(2 - k % 2, 3, 0);
        }
        x.letter(0, 9, 9);
        x.letter(1, 8, 20);
        x.letter(2, 7, 30);
        x.letter(3, 6, 31);
        due("18 day -1", x.open(-1), BAD);
        due("18 day 1000", x.open(1000), BAD);
        due("18 none came", x.open(8), 0);
        due("18 letters not opened", x.count(4), 4);
        due("18 up to that day", x.open(30), 2);
        due("18 the least mark is given", x.about(2, 3), 1);
        due("18 then the next", x.about(1, 3), 1);
        due("18 the last is refused", x.about(0, 3), 2);
        due("18 who did not come yet", x.about(3, 3), 0);
        due("18 letters not opened", x.count(4), 1);
        due("18 the beds", x.free(0, NONE, 3), 0);
        due("18 the last day", x.open(999), 0);
        due("18 refused", x.about(3, 3), 2);
    }

    private static void openLikeMarks() {
        WalkHouses x = new WalkHouses();
        x.house(1, 0, 0, 0);
        for (int k = 0; k < 3; k++) {
            x.chain(1, 3, 0);
        }
        x.letter(2, 5, 9);
        x.letter(0, 5, 5);
        x.letter(1, 5, 7);
        due("18 one is given", x.open(9), 1);
        due("18 as they were told", x.about(2, 3), 1);
        due("18 refused", x.about(0, 3), 2);
    }

    private static void openLateAndTwice() {
        WalkHouses x = new WalkHouses();
        x.house(9, 0, 0, 0);
        int late = x.chain(1, 0, 0);
        x.add(late, 0);
        int twice = x.chain(1, 5, 0);
        int given = x.chain(1, 5, 0);
        x.letter(late, 0, 0);
        x.letter(twice, 0, 0);
        x.letter(twice, 1, 1);
        x.letter(given, 2, 2);
        x.give(given);
        x.pass();
        x.pass();
        due("18 asked ones do not go", x.about(late, 3), 0);
        due("18 given by a letter counts once", x.open(2), 1);
        due("18 its first night is ahead of now", x.about(late, 3), 2);
        due("18 given", x.about(twice, 3), 1);
        due("18 it stays given", x.about(given, 3), 1);
        due("18 laid once", x.free(0, NONE, 5), 7);
        due("18 opened ones stay opened", x.open(999), 0);
    }
}
