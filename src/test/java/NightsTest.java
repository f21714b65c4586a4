/** Promises 19 to 25. */
public final class NightsTest {
    private static final int NONE = WalkHouses.NONE, BAD = WalkHouses.BAD, NOT = WalkHouses.NOT, FULL = WalkHouses.FULL;
    private static final Check check = new Check();

    private static void due(String what, long got, long want) {
        check.due(what, got, want);
    }

    public static void main(String[] args) {
        arrive();
        doorArguments();
        doorWithFreeBeds();
        doorAtTheHour();
        pass();
        choresByWhoDidLeast();
        choresStayExact();
        suppers();
        list();
        count();
        digest();
        check.end();
    }

    private static WalkHouses oneHouse(int a, int b, int c, int hour) {
        WalkHouses x = new WalkHouses();
        x.house(a, b, c, hour);
        return x;
    }

    private static int given(WalkHouses x, int size, int night, int nights) {
        int k = x.chain(size, night, 0);
        for (int i = 1; i < nights; i++) {
            x.add(k, 0);
        }
        x.give(k);
        return k;
    }

    private static void arrive() {
        WalkHouses x = oneHouse(9, 0, 0, 12);
        due("19 no such chain", x.arrive(0), BAD);
        int k = given(x, 2, 1, 2);
        int asked = x.chain(1, 1, 0);
        due("19 chain -1", x.arrive(-1), BAD);
        due("19 its first night is not now", x.arrive(k), NOT);
        x.pass();
        due("19 it is only asked", x.arrive(asked), NOT);
        due("19 arrives", x.arrive(k), 1);
        due("19 it did arrive", x.arrive(k), NOT);
        x.pass();
        due("19 anew in the next night", x.arrive(k), 1);
        x.pass();
        due("19 it is gone", x.arrive(k), NOT);
    }

    private static void doorArguments() {
        WalkHouses x = oneHouse(9, 0, 0, 12);
        due("20 no such house", x.door(1, 1, 0), BAD);
        due("20 house -1", x.door(-1, 1, 0), BAD);
        due("20 no walkers", x.door(0, 0, 0), BAD);
        due("20 ten walkers", x.door(0, 10, 0), BAD);
        due("20 hour -1", x.door(0, 1, -1), BAD);
        due("20 hour 24", x.door(0, 1, 24), BAD);
        x.shut(0, 1, 1);
        due("20 not shut yet", x.door(0, 1, 0), 0);
        x.pass();
        due("20 BAD goes ahead of NOT", x.door(0, 0, 0), BAD);
        due("20 shut now", x.door(0, 1, 0), NOT);
        x.pass();
        due("20 shut no more", x.door(0, 1, 0), 0);
    }

    private static void doorWithFreeBeds() {
        WalkHouses x = oneHouse(2, 4, 3, 12);
        due("20 laid at any hour", x.door(0, 3, 0), 0);
        due("20 the fewest dorms", x.free(0, 1, 0), 1);
        due("20 tonight alone", x.free(0, NONE, 1), 9);
        due("20 not enough", x.door(0, 7, 23), NONE);
        due("20 just enough", x.door(0, 6, 23), 0);
        due("20 full", x.free(0, NONE, 0), 0);
        due("20 walkers do not lose their beds", x.door(0, 1, 23), NONE);
        due("20 walkers so far", x.count(9), 9);
    }

    private static void doorAtTheHour() {
        WalkHouses x = oneHouse(5, 4, 0, 17);
        int a = given(x, 2, 0, 2);
        int b = given(x, 2, 0, 2);
        int c = given(x, 1, 0, 1);
        int d = given(x, 3, 0, 1);
        due("20 one bed is free", x.free(0, NONE, 0), 1);
        x.arrive(c);
        due("20 ahead of the hour", x.door(0, 2, 16), NONE);
        due("20 too many even so", x.door(0, 9, 17), NONE);
        due("20 then none loses", x.about(d, 20), 1);
        due("20 the hour itself", x.door(0, 5, 17), 2);
        due("20 the greatest number", x.about(d, 20), 0);
        due("20 not who arrived", x.about(c, 20), 1);
        due("20 the next one", x.about(b, 20), 0);
        due("20 just as many as are needed", x.about(a, 20), 1);
        due("20 of this night alone", x.about(b, 21), 1);
        due("20 they cannot arrive", x.arrive(b), NOT);
        due("20 one is free again", x.free(0, NONE, 0), 1);
        due("20 given still", x.about(b, 3), 1);
        due("20 turned away ones do not count", x.count(9), 5);
        x.pass();
        due("20 they arrive in the next", x.arrive(b), 1);
    }

    private static void pass() {
        WalkHouses x = oneHouse(9, 0, 0, 12);
        int one = given(x, 1, 0, 1);
        int two = given(x, 1, 0, 2);
        int asked = x.chain(1, 0, 0);
        x.arrive(two);
        due("21 how many slept", x.pass(), 1);
        due("21 the night now", x.count(3), 1);
        due("21 gone without arriving", x.about(one, 3), 3);
        due("21 its last night is now", x.about(two, 3), 1);
        due("21 asked stays asked", x.about(asked, 3), 0);
        due("21 slept", x.about(two, 6), 1);
        due("21 did not sleep", x.about(one, 6), 0);
        due("21 nobody arrived", x.pass(), 0);
        due("21 gone", x.about(two, 3), 3);
        for (int night = 3; night <= 39; night++) {
            due("21 passes", x.pass(), 0);
        }
        int last = given(x, 1, 39, 1);
        x.arrive(last);
        due("21 it is night 39", x.count(3), 39);
        due("21 full", x.pass(), FULL);
        due("21 refusals change nothing", x.about(last, 6), 0);
        due("21 given", x.about(last, 3), 1);
    }

    private static void choresByWhoDidLeast() {
        WalkHouses x = new WalkHouses();
        x.house(9, 9, 0, 12);
        x.house(9, 0, 0, 12);
        x.chores(0, 9);
        x.chores(1, 2);
        int a = given(x, 3, 0, 2);
        int b = given(x, 2, 0, 2);
        int absent = given(x, 1, 0, 2);
        int there = x.chain(1, 0, 1);
        x.give(there);
        x.arrive(a);
        x.arrive(b);
        x.arrive(there);
        x.pass();
        // Done by size before each of the 9 chores: a 0, b 0, a 1/3, b 1/2, a 2/3, a 1, b 1, a 4/3, b 3/2.
        due("21 by size", x.about(a, 5), 5);
        due("21 by size", x.about(b, 5), 4);
        due("21 who did not sleep there", x.about(absent, 5), 0);
        due("21 in another house", x.about(there, 5), 2);
        x.arrive(absent);
        x.pass();
        due("21 alone", x.about(absent, 5), 9);
        due("21 not there", x.about(a, 5), 5);
    }

    private static void choresStayExact() {
        WalkHouses x = oneHouse(9, 9, 9, 12);
        int a = given(x, 12, 0, 7);
        int b = given(x, 11, 0, 7);
        x.chores(0, 9);
        // Counted in 132ths of a chore by person, a stands at 11 for each that it did and b at 12.
        int doneA = 0;
        int doneB = 0;
        for (int night = 0; night < 7; night++) {
            x.arrive(a);
            x.arrive(b);
            x.pass();
            while (doneA + doneB < 9 * (night + 1)) {
                if (doneA * 11 <= doneB * 12) {
                    doneA++;
                } else {
                    doneB++;
                }
            }
            due("21 the greater one", x.about(a, 5), doneA);
            due("21 the lesser one", x.about(b, 5), doneB);
        }
    }

    private static void suppers() {
        WalkHouses x = oneHouse(9, 9, 9, 12);
        x.house(1, 0, 0, 0);
        int k = given(x, 3, 0, 3);
        given(x, 4, 2, 1);
        x.chain(5, 2, 0);
        due("22 no such house", x.suppers(2, 0), BAD);
        due("22 house -1", x.suppers(-1, 0), BAD);
        due("22 night -1", x.suppers(0, -1), BAD);
        due("22 night 40", x.suppers(0, 40), BAD);
        x.door(0, 7, 0);
        due("22 no night passed", x.suppers(0, 0), 3);
        due("22 chains that are laid", x.suppers(0, 2), 7);
        due("22 nobody", x.suppers(0, 39), 0);
        x.pass();
        due("22 ahead of now", x.suppers(0, 0), BAD);
        due("22 walkers by nights", x.suppers(0, 1), 10);
        x.door(0, 8, 0);
        due("22 tonight's walkers do not count yet", x.suppers(0, 1), 10);
        x.pass();
        due("22 cut", x.suppers(0, 2), 14);
        due("22 another house", x.suppers(1, 2), 0);
        x.door(0, 9, 0);
        x.door(0, 9, 0);
        due("22 all beds", x.door(0, 3, 12), 1);
        due("22 who lost their beds", x.suppers(0, 2), 10);
        due("22 the first stays", x.about(k, 22), 1);
        x.pass();
        due("22 many walkers", x.suppers(0, 3), 12);
    }

    private static void list() {
        WalkHouses x = new WalkHouses();
        due("23 notice -1", x.list(-1, 0), BAD);
        due("23 notice 40", x.list(40, 0), BAD);
        due("23 below 0", x.list(0, -1), BAD);
        due("23 above 100", x.list(0, 101), BAD);
        for (int n = 1; n <= 20; n++) {
            due("23 how many", x.list(n == 1 ? 39 : 0, n == 1 ? 100 : 0), n);
        }
        due("23 BAD goes ahead of FULL", x.list(0, 101), BAD);
        due("23 full", x.list(0, 0), FULL);
        due("23 count", x.count(8), 20);
    }

    private static void count() {
        WalkHouses x = new WalkHouses();
        x.house(9, 0, 0, 1);
        x.house(9, 0, 0, 1);
        x.house(9, 0, 0, 1);
        x.stage(0, 1, 1);
        x.stage(0, 2, 1);
        given(x, 1, 0, 1);
        given(x, 1, 5, 1);
        given(x, 1, 5, 1);
        x.giveUp(given(x, 1, 5, 1));
        x.giveUp(given(x, 1, 5, 1));
        x.giveUp(given(x, 1, 5, 1));
        int asked = x.chain(1, 5, 0);
        x.letter(asked, 1, 8);
        x.letter(asked, 2, 9);
        x.list(1, 1);
        x.door(1, 6, 0);
        x.pass();
        int[] want = {3, 2, 7, 1, 2, 2, 3, 1, 1, 6};
        for (int what = 0; what < 10; what++) {
            due("24 count " + what, x.count(what), want[what]);
        }
        due("24 count -1", x.count(-1), BAD);
        due("24 count 10", x.count(10), BAD);
    }

    private static void digest() {
        WalkHouses x = new WalkHouses();
        x.house(2, 0, 3, 1);
        x.house(9, 0, 0, 1);
        x.stage(0, 1, 8);
        int k = x.chain(2, 0, 0);
        x.add(k, 1);
        x.give(k);
        x.chain(1, 4, 1);
        x.arrive(k);
        x.pass();
        long h = 17;
        int[] counts = {2, 1, 2, 1, 0, 1, 0, 0, 0, 0};
        for (int n : counts) {
            h = 31 * h + n;
        }
        int[] chains = {1, 0, 0, 1, 0, 1, 0, 0, 0, 0, 1};
        for (int n : chains) {
            h = 31 * h + n;
        }
        for (int night = 1; night < 40; night++) {
            h = 31 * h + 5;
        }
        for (int night = 1; night < 40; night++) {
            h = 31 * h + (night == 1 ? 7 : 9);
        }
        due("25 digest", x.digest(), h);
        due("25 it changes nothing", x.digest(), h);
    }
}
