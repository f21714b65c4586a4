import java.math.BigInteger;

/** Sentences about the night that passes, chores, suppers, the list, counts and the digest (promises 21 to 25). */
public final class NightsBoundsTest {
    private static final int NONE = WalkHouses.NONE, BAD = WalkHouses.BAD, FULL = WalkHouses.FULL;
    private static final Check check = new Check();

    private static void due(String what, long got, long want) {
        check.due(what, got, want);
    }

    public static void main(String[] args) {
        fortyNights();
        howManySlept();
        lastNightPassed();
        askedOnesDoNotGo();
        noneToNineChores();
        choresWithoutSleepers();
        likeOnesByNumber();
        doneBySizeExactly();
        doneInOtherHouses();
        choresOfTheNight();
        suppersNotAheadOfNow();
        suppersOfWalkers();
        suppersCut();
        suppersOfChains();
        twentyLines();
        counts();
        countsOfChains();
        digestOfEach();
        digestFromNowOn();
        digestWraps();
        digestOfAFullObject();
        check.end();
    }

    private static void fortyNights() {
        check.sentence("21: NIGHTS are 0 .. 39; FULL: it is NIGHT 39");
        WalkHouses x = Scenes.houses(1, 3);
        for (int night = 0; night < 39; night++) {
            due("now", x.count(3), night);
            due("passes", x.pass(), 0);
        }
        int k = Scenes.givenOf(x, 1, 39, 0);
        x.arrive(k);
        x.chores(0, 2);
        due("full", x.pass(), FULL);
        due("night 39 still", x.count(3), 39);
        due("given still", x.about(k, 3), 1);
        due("not slept", x.about(k, 6), 0);
        due("no chore done", x.about(k, 5), 0);
        due("full again", x.pass(), FULL);
    }

    private static void howManySlept() {
        check.sentence("21: CHAINS that ARRIVED have SLEPT it: how many CHAINS SLEPT");
        WalkHouses x = Scenes.joinedHouses(2, 9);
        int[] k = new int[4];
        for (int n = 0; n < 4; n++) {
            k[n] = Scenes.givenOf(x, 2, 0, n % 2, n % 2);
        }
        for (int n = 0; n < 3; n++) {
            x.arrive(k[n]);
        }
        due("chains, not people", x.pass(), 3);
        due("slept", x.about(k[0], 6), 1);
        due("did not arrive", x.about(k[3], 6), 0);
        due("arrived in the night ahead alone", x.pass(), 0);
        due("one night", x.about(k[0], 6), 1);
        due("an empty object", new WalkHouses().pass(), 0);
    }

    private static void lastNightPassed() {
        check.sentence("21: A CHAIN that is GIVEN, and whose last NIGHT passed, is GONE");
        WalkHouses x = Scenes.houses(1, 9);
        int one = Scenes.givenOf(x, 1, 0, 0);
        int seven = Scenes.givenOf(x, 1, 0, 0, 0, 0, 0, 0, 0, 0);
        int later = Scenes.givenOf(x, 1, 1, 0);
        x.pass();
        due("one night", x.about(one, 3), 3);
        due("its first is now", x.about(later, 3), 1);
        Scenes.passes(x, 5);
        due("the last of seven is now", x.about(seven, 3), 1);
        x.pass();
        due("gone, though it never arrived", x.about(seven, 3), 3);
        int refused = Scenes.givenOf(x, 1, 8, 0);
        x.giveUp(refused);
        Scenes.passes(x, 5);
        due("refused ones do not go", x.about(refused, 3), 2);
    }

    private static void askedOnesDoNotGo() {
        check.sentence("21: one that is still ASKED is REFUSED by its LETTER");
        WalkHouses x = Scenes.houses(1, 9);
        int k = x.chain(1, 0, 0);
        int without = x.chain(1, 0, 0);
        x.letter(k, 3, 3);
        Scenes.passes(x, 2);
        due("asked", x.about(k, 3), 0);
        due("not given by it", x.open(3), 0);
        due("refused", x.about(k, 3), 2);
        due("without one it stays", x.about(without, 3), 0);
    }

    private static void noneToNineChores() {
        check.sentence("21: CHORES: in each HOUSE its CHORES (told; 0 to 9) one by one");
        for (int n = 0; n <= 9; n += 3) {
            WalkHouses x = Scenes.houses(1, 9);
            x.chores(0, n);
            int k = Scenes.givenOf(x, 2, 0, 0);
            x.arrive(k);
            x.pass();
            due(n + " chores", x.about(k, 5), n);
        }
        WalkHouses y = Scenes.houses(1, 9);
        int k = Scenes.givenOf(y, 2, 0, 0);
        y.arrive(k);
        y.pass();
        due("none told", y.about(k, 5), 0);
    }

    private static void choresWithoutSleepers() {
        check.sentence("21: done by those CHAINS that SLEPT there");
        WalkHouses x = Scenes.houses(2, 9);
        x.chores(0, 9);
        int absent = Scenes.givenOf(x, 1, 0, 0, 0);
        int elsewhere = Scenes.givenOf(x, 1, 0, 1);
        x.arrive(elsewhere);
        x.door(0, 3, 0);
        due("one slept, not there", x.pass(), 1);
        due("did not arrive", x.about(absent, 5), 0);
        due("slept in another house", x.about(elsewhere, 5), 0);
        x.arrive(absent);
        x.pass();
        due("left-over chores are not done later", x.about(absent, 5), 9);
    }

    private static void likeOnesByNumber() {
        check.sentence("21: of like ones the least number");
        WalkHouses x = Scenes.houses(1, 9);
        int[] k = new int[3];
        for (int n = 0; n < 3; n++) {
            k[n] = x.chain(2, 0, 0);
        }
        for (int n = 2; n >= 0; n--) {
            x.give(k[n]);
            x.arrive(k[n]);
        }
        x.chores(0, 5);
        x.pass();
        due("the least", x.about(k[0], 5), 2);
        due("the next", x.about(k[1], 5), 2);
        due("the greatest", x.about(k[2], 5), 1);
    }

    private static void doneBySizeExactly() {
        check.sentence("21: the one with the least DONE by SIZE (compared exactly)");
        WalkHouses x = new WalkHouses();
        x.house(9, 9, 0, 12);
        int small = Scenes.givenOf(x, 1, 0, 0);
        int great = Scenes.givenOf(x, 3, 0, 0);
        x.arrive(small);
        x.arrive(great);
        x.chores(0, 7);
        x.pass();
        // 0/1 and 0/3: small; then 0/3, 1/3, 2/3: great; 1/1 and 3/3: small; 3/3, 4/3: great.
        due("the small one", x.about(small, 5), 2);
        due("the great one", x.about(great, 5), 5);
        WalkHouses y = new WalkHouses();
        y.house(9, 9, 9, 12);
        int eleven = Scenes.givenOf(y, 11, 0, 0, 0);
        int twelve = Scenes.givenOf(y, 12, 0, 0, 0);
        y.chores(0, 9);
        for (int night = 0; night < 2; night++) {
            y.arrive(eleven);
            y.arrive(twelve);
            y.pass();
        }
        // By turns, as 1/11 is above 1/12, till 9/11 and 9/12.
        due("eleven people", y.about(eleven, 5), 9);
        due("twelve people", y.about(twelve, 5), 9);
    }

    private static void doneInOtherHouses() {
        check.sentence("21: CHORES: in each HOUSE, by numbers; DONE counts all that it did");
        WalkHouses x = Scenes.joinedHouses(2, 9);
        x.chores(1, 4);
        int busy = Scenes.givenOf(x, 1, 0, 1, 0);
        x.arrive(busy);
        x.pass();
        due("four", x.about(busy, 5), 4);
        int fresh = Scenes.givenOf(x, 1, 1, 0);
        x.arrive(busy);
        x.arrive(fresh);
        x.chores(0, 6);
        x.pass();
        due("the fresh one does four, then the lesser number, then the fresh one", x.about(fresh, 5), 5);
        due("one more", x.about(busy, 5), 5);
    }

    private static void choresOfTheNight() {
        check.sentence("21: its CHORES as told when THE NIGHT passes");
        WalkHouses x = Scenes.houses(1, 9);
        int k = Scenes.givenOf(x, 1, 0, 0, 0);
        x.chores(0, 9);
        x.arrive(k);
        x.chores(0, 1);
        x.pass();
        due("one", x.about(k, 5), 1);
        x.arrive(k);
        x.pass();
        due("one each night", x.about(k, 5), 2);
    }

    private static void suppersNotAheadOfNow() {
        check.sentence("22: SUPPERS foretold for a HOUSE and a NIGHT (not ahead of now). BAD");
        WalkHouses x = Scenes.houses(1, 9);
        due("night -1", x.suppers(0, -1), BAD);
        due("now", x.suppers(0, 0), 0);
        due("night 39", x.suppers(0, 39), 0);
        due("night 40", x.suppers(0, 40), BAD);
        Scenes.passes(x, 2);
        due("ahead of now", x.suppers(0, 1), BAD);
        due("now", x.suppers(0, 2), 0);
        Scenes.passes(x, 37);
        due("night 38", x.suppers(0, 38), BAD);
        due("night 39 is now", x.suppers(0, 39), 0);
    }

    private static void suppersOfWalkers() {
        check.sentence("22: all walkers LAID from its DOOR in NIGHTS that passed, by how many NIGHTS passed (0 without)");
        WalkHouses x = Scenes.houses(2, 9);
        x.door(0, 4, 0);
        due("no night passed", x.suppers(0, 0), 0);
        due("nor for a later night", x.suppers(0, 7), 0);
        x.pass();
        due("four by one", x.suppers(0, 1), 4);
        due("the same for a later night", x.suppers(0, 39), 4);
        due("another house", x.suppers(1, 1), 0);
        x.door(0, 6, 0);
        due("turned away", x.door(0, 9, 23), NONE);
        due("tonight's do not count yet", x.suppers(0, 1), 4);
        x.pass();
        due("ten by two", x.suppers(0, 2), 5);
    }

    private static void suppersCut() {
        check.sentence("22: by how many NIGHTS passed (cut)");
        WalkHouses x = Scenes.houses(1, 9);
        x.door(0, 5, 0);
        int[] people = {5, 2, 1, 1, 1, 0, 0};
        for (int n = 0; n < people.length; n++) {
            x.pass();
            due("after " + (n + 1) + " nights", x.suppers(0, n + 1), people[n]);
        }
    }

    private static void suppersOfChains() {
        check.sentence("22: people of CHAINS LAID there");
        WalkHouses x = Scenes.joinedHouses(2, 9);
        int k = Scenes.givenOf(x, 3, 1, 0, 1);
        Scenes.givenOf(x, 4, 1, 0);
        int asked = x.chain(2, 1, 0);
        due("the night ahead", x.suppers(0, 0), 0);
        due("both", x.suppers(0, 1), 7);
        due("the next house", x.suppers(1, 2), 3);
        due("not there any more", x.suppers(0, 2), 0);
        x.give(asked);
        due("given", x.suppers(0, 1), 9);
        x.giveUp(asked);
        due("given up", x.suppers(0, 1), 7);
        x.pass();
        x.arrive(k);
        due("arrived or not", x.suppers(0, 1), 7);
        x.door(0, 6, 23);
        due("who lost their beds", x.suppers(0, 1), 3);
        due("walkers and chains", afterOneMore(x), 6 / 2 + 3);
    }

    private static int afterOneMore(WalkHouses x) {
        x.pass();
        x.door(0, 3, 0);
        Scenes.givenOf(x, 3, 2, 0);
        return x.suppers(0, 2);
    }

    private static void twentyLines() {
        check.sentence("23: lists, 20 at most: how many; FULL");
        WalkHouses x = new WalkHouses();
        for (int n = 1; n <= 20; n++) {
            due("how many", x.list(2 * n - 1, 5 * n), n);
        }
        due("the next", x.list(0, 0), FULL);
        due("count", x.count(8), 20);
        due("like ones count too", sameLines(), 20);
        due("notice 0, nothing paid", new WalkHouses().list(0, 0), 1);
        due("notice 39, all paid", new WalkHouses().list(39, 100), 1);
    }

    private static int sameLines() {
        WalkHouses x = new WalkHouses();
        for (int n = 1; n <= 21; n++) {
            x.list(3, 3);
        }
        return x.count(8);
    }

    private static void counts() {
        check.sentence("24: 0 HOUSES, 1 STAGES, 2 CHAINS, 3 the NIGHT, 4 LETTERS, 5 .. 7, 8 lines, 9 walkers. BAD");
        WalkHouses x = new WalkHouses();
        int[] due = new int[10];
        Call[] calls = {new Call("house", 9, 0, 0, 0), new Call("house", 9, 0, 0, 0), new Call("stage", 0, 1, 1),
            new Call("chain", 1, 0, 0), new Call("letter", 0, 0, 0), new Call("list", 0, 0), new Call("door", 0, 7, 0),
            new Call("pass")};
        int[] what = {0, 0, 1, 2, 4, 8, 9, 3};
        int[] more = {1, 1, 1, 1, 1, 1, 7, 1};
        for (int n = 0; n < calls.length; n++) {
            calls[n].on(x);
            due[what[n]] += more[n];
            for (int c = 0; c < 10; c++) {
                due("count " + c + " after " + calls[n], x.count(c), due[c]);
            }
        }
        due("count -1", x.count(-1), BAD);
        due("count 10", x.count(10), BAD);
    }

    private static void countsOfChains() {
        check.sentence("24: 4 LETTERS not opened, 5 CHAINS that are GIVEN, 6 REFUSED, 7 GONE");
        WalkHouses x = Scenes.houses(1, 9);
        x.letter(x.chain(1, 3, 0), 0, 0);
        x.letter(x.chain(12, 3, 0), 0, 0);
        x.letter(x.chain(1, 3, 0), 1, 1);
        Scenes.givenOf(x, 1, 0, 0);
        due("not opened", x.count(4), 3);
        due("given", x.count(5), 1);
        x.open(0);
        due("not opened", x.count(4), 1);
        due("given", x.count(5), 2);
        due("refused", x.count(6), 1);
        due("gone", x.count(7), 0);
        x.pass();
        due("given", x.count(5), 1);
        due("gone", x.count(7), 1);
        x.giveUp(0);
        due("given", x.count(5), 0);
        due("refused", x.count(6), 2);
    }

    /** The document's digest, told once more from the other calls, without wrapping until the end. */
    private static long digestOf(WalkHouses x, int chains, int houses) {
        BigInteger h = BigInteger.valueOf(17);
        for (int what = 0; what <= 9; what++) {
            h = next(h, x.count(what));
        }
        for (int k = 0; k < chains; k++) {
            for (int what = 3; what <= 6; what++) {
                h = next(h, x.about(k, what));
            }
            for (int i = 0; i < x.about(k, 2); i++) {
                h = next(h, x.about(k, 10 + i));
            }
        }
        for (int house = 0; house < houses; house++) {
            for (int night = x.count(3); night < 40; night++) {
                h = next(h, x.free(house, NONE, night));
            }
        }
        return h.longValue();
    }

    private static BigInteger next(BigInteger h, int n) {
        return h.multiply(BigInteger.valueOf(31)).add(BigInteger.valueOf(n));
    }

    private static void digestOfEach() {
        check.sentence("25: h becomes 31 h and each of: count(), of each CHAIN about() 3 to 6, its HOUSES");
        WalkHouses x = Twins.after(Scenes::village);
        due("the village", x.digest(), digestOf(x, Scenes.VILLAGE_CHAINS, Scenes.VILLAGE_HOUSES));
        WalkHouses y = Scenes.houses(1, 9);
        due("no chain", y.digest(), digestOf(y, 0, 1));
        y.chain(1, 38, 0);
        due("one chain", y.digest(), digestOf(y, 1, 1));
        y.add(0, 0);
        due("a house of it more", y.digest(), digestOf(y, 1, 1));
    }

    private static void digestFromNowOn() {
        check.sentence("25: of each HOUSE its free BEDS in each NIGHT from now on");
        WalkHouses x = Scenes.joinedHouses(3, 9);
        Scenes.givenOf(x, 2, 0, 0, 1, 2);
        Scenes.givenOf(x, 3, 38, 0, 0);
        due("night 0", x.digest(), digestOf(x, 2, 3));
        x.pass();
        due("night 1", x.digest(), digestOf(x, 2, 3));
        Scenes.passes(x, 38);
        due("night 39: one night of each", x.digest(), digestOf(x, 2, 3));
        WalkHouses y = Scenes.houses(1, 9);
        Scenes.passes(y, 39);
        long h = 17;
        int[] told = {1, 0, 0, 39, 0, 0, 0, 0, 0, 0, 9};
        for (int n : told) {
            h = 31 * h + n;
        }
        due("a house in night 39", y.digest(), h);
    }

    private static void digestWraps() {
        check.sentence("25: as longs that wrap");
        WalkHouses x = Twins.after(Scenes::fullOfStages);
        due("twelve houses", x.digest(), digestOf(x, Scenes.VILLAGE_CHAINS, 12));
        due("asked twice", x.digest(), x.digest());
        WalkHouses y = new WalkHouses();
        long h = 17;
        for (int what = 0; what <= 9; what++) {
            h = 31 * h;
        }
        due("a new one", y.digest(), h);
        y.pass();
        // The night is count 3, behind which 31 is taken six times more.
        due("a night later", y.digest(), h + 31L * 31 * 31 * 31 * 31 * 31);
    }

    private static void digestOfAFullObject() {
        check.sentence("25: of each CHAIN and HOUSE: 40 CHAINS of 7 HOUSES, 12 HOUSES");
        WalkHouses x = Scenes.houses(12, 9);
        long h = 17;
        int[] counts = {12, 0, 40, 0, 0, 0, 0, 0, 0, 0};
        for (int n : counts) {
            h = 31 * h + n;
        }
        for (int k = 0; k < 40; k++) {
            int house = k % 12;
            Scenes.chainOf(x, 1, 33, house, 11, house, 11, house, 11, house);
            int[] told = {0, 0, 0, 0, house, 11, house, 11, house, 11, house};
            for (int n : told) {
                h = 31 * h + n;
            }
        }
        for (int n = 0; n < 12 * 40; n++) {
            h = 31 * h + 9;
        }
        due("digest", x.digest(), h);
    }
}
