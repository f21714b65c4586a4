/** Promises 8 to 16. */
public final class ChainsTest {
    private static final int NONE = WalkHouses.NONE, BAD = WalkHouses.BAD, NOT = WalkHouses.NOT, FULL = WalkHouses.FULL;
    private static final Check check = new Check();

    private static void due(String what, long got, long want) {
        check.due(what, got, want);
    }

    public static void main(String[] args) {
        chain();
        add();
        give();
        giveNot();
        layingByFewestDorms();
        otherAndOffered();
        take();
        theLesserHouse();
        giveUp();
        about();
        laid();
        check.end();
    }

    /** Houses 0 - 1 - 2 - 3 in a line, and 0 - 4 - 2. */
    private static WalkHouses line() {
        WalkHouses x = new WalkHouses();
        for (int k = 0; k < 5; k++) {
            x.house(4, 0, 2, 18);
        }
        x.stage(0, 1, 3);
        x.stage(1, 2, 5);
        x.stage(2, 3, 7);
        x.stage(0, 4, 11);
        x.stage(4, 2, 13);
        return x;
    }

    private static void chain() {
        WalkHouses x = new WalkHouses();
        due("8 no such house", x.chain(1, 0, 0), BAD);
        x.house(1, 0, 0, 0);
        due("8 size 0", x.chain(0, 0, 0), BAD);
        due("8 size 13", x.chain(13, 0, 0), BAD);
        due("8 night -1", x.chain(1, -1, 0), BAD);
        due("8 night 40", x.chain(1, 40, 0), BAD);
        due("8 house 1", x.chain(1, 0, 1), BAD);
        due("8 house -1", x.chain(1, 0, -1), BAD);
        x.pass();
        due("8 ahead of now", x.chain(1, 0, 0), BAD);
        for (int k = 0; k < 40; k++) {
            due("8 number", x.chain(1 + k % 12, k == 0 ? 1 : 39, 0), k);
        }
        due("8 BAD goes ahead of FULL", x.chain(0, 5, 0), BAD);
        due("8 full", x.chain(1, 5, 0), FULL);
        due("8 count", x.count(2), 40);
        due("8 asked", x.about(39, 3), 0);
    }

    private static void add() {
        WalkHouses x = line();
        due("9 no such chain", x.add(0, 0), BAD);
        int k = x.chain(1, 0, 0);
        due("9 no such house", x.add(k, 5), BAD);
        due("9 no such house", x.add(k, -1), BAD);
        due("9 chain -1", x.add(-1, 0), BAD);
        for (int n = 2; n <= 7; n++) {
            due("9 how many", x.add(k, 0), n);
        }
        due("9 full", x.add(k, 0), FULL);
        int late = x.chain(1, 39, 0);
        due("9 beyond night 39", x.add(late, 0), BAD);
        int seven = Scenes.chainOf(x, 1, 33, 0, 0, 0, 0, 0, 0, 0);
        due("9 seven to night 39", x.about(seven, 2), 7);
        due("9 BAD goes ahead of FULL", x.add(seven, 0), BAD);
        x.give(k);
        due("9 NOT goes ahead of FULL", x.add(k, 0), NOT);
        x.give(late);
        due("9 BAD goes ahead of NOT", x.add(late, 0), BAD);
        int free = x.chain(1, 2, 0);
        due("9 asked still", x.add(free, 3), 2);
    }

    private static void give() {
        WalkHouses x = line();
        due("10 no such chain", x.give(0), BAD);
        due("10 not joined with the one ahead", x.give(Scenes.chainOf(x, 1, 1, 0, 1, 3, 2)), 2);
        x.shut(1, 2, 2);
        due("10 shut", x.give(Scenes.chainOf(x, 1, 1, 0, 1, 2)), 1);
        due("10 shut in another night", x.give(Scenes.chainOf(x, 1, 2, 0, 1, 2)), NONE);
        int many = Scenes.chainOf(x, 7, 1, 0);
        due("10 too few beds", x.give(many), 0);
        due("10 it stays asked", x.about(many, 3), 0);
        due("10 nothing is laid", x.free(0, NONE, 1), 6);
        int whole = Scenes.chainOf(x, 6, 10, 0, 0, 1, 2, 3, 3, 2);
        due("10 given", x.give(whole), NONE);
        due("10 it is given", x.about(whole, 3), 1);
        for (int i = 0; i < 7; i++) {
            due("10 laid in all nights", x.free(x.about(whole, 10 + i), NONE, 10 + i), 0);
        }
        int barred = Scenes.chainOf(x, 1, 9, 1, 0, 0, 1);
        due("10 the first night that bars", x.give(barred), 1);
        due("10 given whole or not at all", x.free(1, NONE, 9), 6);
    }

    private static void giveNot() {
        WalkHouses x = line();
        int given = Scenes.chainOf(x, 1, 1, 0);
        int missed = Scenes.chainOf(x, 1, 0, 0, 0);
        x.give(given);
        due("10 given already", x.give(given), NOT);
        due("11 given already", x.other(given), NOT);
        due("12 given already", x.offered(given, 0), NOT);
        due("13 given already", x.take(given), NOT);
        x.pass();
        due("10 its first night is ahead of now", x.give(missed), NOT);
        due("11 its first night is ahead of now", x.other(missed), NOT);
        due("12 its first night is ahead of now", x.offered(missed, 0), NOT);
        due("12 BAD goes ahead of NOT", x.offered(missed, 2), BAD);
        due("13 its first night is ahead of now", x.take(missed), NOT);
        due("10 its first night is now", x.give(Scenes.chainOf(x, 1, 1, 0)), NONE);
        due("10 chain -1", x.give(-1), BAD);
        due("10 chain 3", x.give(3), BAD);
    }

    private static int laying(int a, int b, int c, int n, WalkHouses x) {
        int h = x.house(a, b, c, 0);
        int k = x.chain(n, 0, h);
        x.give(k);
        return k;
    }

    private static void layingByFewestDorms() {
        WalkHouses x = new WalkHouses();
        Scenes.laidIs(check, "10 dorm 0 is enough", x, laying(3, 3, 3, 3, x), 3, 0, 0);
        Scenes.laidIs(check, "10 dorm 1 is enough", x, laying(2, 3, 4, 3, x), 0, 3, 0);
        Scenes.laidIs(check, "10 dorm 2 is enough", x, laying(2, 2, 4, 4, x), 0, 0, 4);
        Scenes.laidIs(check, "10 dorms 0 and 1", x, laying(2, 3, 4, 5, x), 2, 3, 0);
        Scenes.laidIs(check, "10 dorms 0 and 2", x, laying(3, 2, 4, 6, x), 3, 0, 3);
        Scenes.laidIs(check, "10 dorms 1 and 2", x, laying(1, 3, 4, 6, x), 0, 3, 3);
        Scenes.laidIs(check, "10 all three", x, laying(3, 3, 4, 9, x), 3, 3, 3);
        Scenes.laidIs(check, "10 the last one is not filled", x, laying(9, 9, 9, 12, x), 9, 3, 0);
        due("10 what is left", x.free(7, 1, 0), 6);
        int second = x.chain(7, 0, 7);
        x.give(second);
        Scenes.laidIs(check, "10 by what is free", x, second, 0, 0, 7);
        int third = x.chain(7, 0, 7);
        x.give(third);
        Scenes.laidIs(check, "10 by what is free still", x, third, 0, 6, 1);
    }

    private static void otherAndOffered() {
        WalkHouses x = line();
        due("11 no such chain", x.other(0), BAD);
        due("12 no such chain", x.offered(0, 0), BAD);
        due("13 no such chain", x.take(0), BAD);
        int own = Scenes.chainOf(x, 2, 1, 0, 1, 2);
        due("11 its own is open", x.other(own), 0);
        due("12 its own", x.offered(own, 1), 1);
        due("12 night -1", x.offered(own, -1), BAD);
        due("12 night 3", x.offered(own, 3), BAD);
        x.shut(1, 2, 2);
        due("11 by house 0 twice? not joined with 2", x.other(own), 1);
        due("12 the other one", x.offered(own, 1), 4);
        due("12 the first stays", x.offered(own, 0), 0);
        due("12 the last stays", x.offered(own, 2), 2);
        due("11 asking changes nothing", x.about(own, 11), 1);
        due("11 asked still", x.about(own, 3), 0);
        x.shut(4, 2, 2);
        due("11 there is none", x.other(own), NONE);
        due("12 there is none", x.offered(own, 1), NONE);
        due("13 there is none", x.take(own), NONE);
        due("13 it stays asked", x.about(own, 3), 0);
        int alone = Scenes.chainOf(x, 7, 1, 0);
        due("11 first and last stay", x.other(alone), NONE);
        int notJoined = Scenes.chainOf(x, 1, 5, 0, 2, 3);
        due("11 two that are not joined", x.other(notJoined), NONE);
        int mended = Scenes.chainOf(x, 1, 5, 0, 3, 2);
        due("11 a house that was not joined", x.other(mended), 1);
        due("12 the lesser house", x.offered(mended, 1), 1);
    }

    private static void take() {
        WalkHouses x = line();
        int k = Scenes.chainOf(x, 6, 1, 0, 1, 2, 3);
        int rival = Scenes.chainOf(x, 1, 2, 1);
        x.give(rival);
        due("13 nights changed", x.take(k), 1);
        due("13 its way", x.about(k, 11), 4);
        due("13 given", x.about(k, 3), 1);
        due("13 laid there", x.free(4, NONE, 2), 0);
        due("13 not there", x.free(1, NONE, 2), 5);
        due("13 laid in the last", x.free(3, NONE, 4), 0);
        int own = Scenes.chainOf(x, 5, 20, 0, 1);
        due("13 its own", x.take(own), 0);
        due("13 laid by fewest dorms", x.laid(own, 0, 0), 4);
    }

    private static void theLesserHouse() {
        WalkHouses x = new WalkHouses();
        for (int k = 0; k < 7; k++) {
            x.house(2, 0, 0, 18);
        }
        // From 6 to 0 in four nights: by 5 and 4 (asked), by 1 and 3, by 2 and 3.
        x.stage(6, 5, 1);
        x.stage(5, 4, 1);
        x.stage(4, 0, 1);
        x.stage(6, 1, 1);
        x.stage(6, 2, 1);
        x.stage(1, 3, 1);
        x.stage(2, 3, 1);
        x.stage(3, 0, 1);
        int k = Scenes.chainOf(x, 1, 1, 6, 5, 4, 0);
        x.shut(5, 2, 2);
        due("11 two nights", x.other(k), 2);
        due("12 the lesser where they part first", x.offered(k, 1), 1);
        due("12 then the only one", x.offered(k, 2), 3);
        x.stage(2, 4, 1);
        due("11 the fewest nights go ahead of the lesser house", x.other(k), 1);
        due("12 by 2", x.offered(k, 1), 2);
        due("12 by 4", x.offered(k, 2), 4);
    }

    private static void giveUp() {
        WalkHouses x = line();
        due("14 no such chain", x.giveUp(0), BAD);
        int[] k = new int[6];
        int[] nights = {3, 4, 5, 6, 30, 2};
        for (int i = 0; i < 6; i++) {
            k[i] = Scenes.chainOf(x, 1, nights[i], 0, 1);
            due("14 it is not given", x.giveUp(k[i]), NOT);
            x.give(k[i]);
        }
        x.pass();
        due("14 without a list", x.giveUp(k[0]), 0);
        due("14 refused", x.about(k[0], 3), 2);
        due("14 out of its beds", x.free(1, NONE, 4), 6);
        due("14 laid no more", x.about(k[0], 20), 0);
        due("14 twice", x.giveUp(k[0]), NOT);
        x.list(4, 40);
        x.list(6, 60);
        x.list(4, 44);
        x.list(5, 0);
        due("14 notice 3: none is so small", x.giveUp(k[1]), 0);
        due("14 notice 4: the latest told", x.giveUp(k[2]), 44);
        due("14 notice 5: the greatest, not the most", x.giveUp(k[3]), 0);
        due("14 notice 29", x.giveUp(k[4]), 60);
        x.pass();
        due("14 its first night is now", x.giveUp(k[5]), NOT);
        due("14 given still", x.about(k[5], 3), 1);
        due("14 chain -1", x.giveUp(-1), BAD);
    }

    private static void about() {
        WalkHouses x = line();
        due("15 no such chain", x.about(0, 0), BAD);
        x.chores(1, 3);
        int k = Scenes.chainOf(x, 3, 1, 0, 1, 1, 2, 3);
        due("15 chain -1", x.about(-1, 0), BAD);
        x.give(k);
        x.pass();
        for (int night = 1; night <= 5; night++) {
            if (night != 4) {
                x.arrive(k);
            }
            due("15 laid", x.about(k, 20 + night - 1), 1);
            x.pass();
        }
        due("15 size", x.about(k, 0), 3);
        due("15 first night", x.about(k, 1), 1);
        due("15 houses", x.about(k, 2), 5);
        due("15 gone", x.about(k, 3), 3);
        due("15 miles slept at both ends", x.about(k, 4), 3);
        due("15 done", x.about(k, 5), 6);
        due("15 nights slept", x.about(k, 6), 4);
        due("15 house 3", x.about(k, 13), 2);
        due("15 slept", x.about(k, 22), 1);
        int[] bad = {-1, 7, 8, 9, 15, 16, 17, 19, 25, 26, 27, 30, Integer.MAX_VALUE, Integer.MIN_VALUE};
        for (int what : bad) {
            due("15 about " + what, x.about(k, what), BAD);
        }
        int asked = Scenes.chainOf(x, 1, 20, 0);
        due("15 not laid", x.about(asked, 20), 0);
        due("15 no night slept", x.about(asked, 6), 0);
    }

    private static void laid() {
        WalkHouses x = line();
        due("16 no such chain", x.laid(0, 0, 0), BAD);
        int k = Scenes.chainOf(x, 5, 1, 0, 1);
        due("16 asked", x.laid(k, 0, 0), 0);
        x.give(k);
        due("16 dorm 0", x.laid(k, 1, 0), 4);
        due("16 a dorm that it has not", x.laid(k, 1, 1), 0);
        due("16 dorm 2", x.laid(k, 1, 2), 1);
        due("16 dorm 3", x.laid(k, 1, 3), BAD);
        due("16 dorm -1", x.laid(k, 1, -1), BAD);
        due("16 night 2", x.laid(k, 2, 0), BAD);
        due("16 night -1", x.laid(k, -1, 0), BAD);
        due("16 chain 1", x.laid(1, 0, 0), BAD);
        due("16 chain -1", x.laid(-1, 0, 0), BAD);
        x.giveUp(k);
        due("16 out of its beds", x.laid(k, 1, 0), 0);
    }
}
