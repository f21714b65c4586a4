import java.util.Random;

/**
 * Random runs of calls, each answer compared with that of the slow model. Half of the runs call
 * anything at any time; the others ask for chains along stages, and have evenings on which most
 * chains arrive and walkers come late, so that houses are full and many chains are led round.
 */
public final class ModelTest {
    private static final int RUNS = 800, CALLS = 512;
    private static final String[] NAMES = {"house", "stage", "chores", "free", "isShut", "shut", "chain", "add", "give",
        "other", "offered", "take", "giveUp", "about", "laid", "letter", "open", "arrive", "door", "pass", "suppers",
        "list", "count", "digest"};
    private static final Check check = new Check();

    private final Random random;
    private final int run;
    private final WalkHouses x = new WalkHouses();
    private final SlowModel model = new SlowModel();
    private final int[] weights = new int[NAMES.length];
    private final int houseLimit;
    private final int bedLimit;
    private final int startsWithin;
    private final boolean[][] joined = new boolean[12][12];
    private int calls;

    private ModelTest(int run) {
        this.run = run;
        random = new Random(run);
        houseLimit = run % 8 == 0 ? 12 : 3 + random.nextInt(4);
        bedLimit = 2 + random.nextInt(8);
        startsWithin = 1 + random.nextInt(run % 4 == 0 ? 39 : 5);
        for (int k = 0; k < weights.length; k++) {
            weights[k] = 1 + random.nextInt(4);
        }
        weights[0] = 1;
        weights[5] = 1;
        weights[7] = 12;
        weights[9] = 2;
        weights[17] = 14;
        weights[19] = run % 3 == 0 ? 1 : 2;
        weights[21] = 1;
        weights[23] = 1;
    }

    public static void main(String[] args) {
        for (int run = 0; run < RUNS; run++) {
            new ModelTest(run).play();
        }
        check.end();
    }

    private void play() {
        int houses = 2 + random.nextInt(houseLimit - 1);
        for (int h = 0; h < houses; h++) {
            call(0);
        }
        for (int s = 0; s < houses * 3; s++) {
            call(1);
        }
        while (calls < CALLS) {
            if (run % 2 == 0) {
                call(pick());
            } else {
                live();
            }
        }
        compareAll();
    }

    /** All that can be asked without a change; these calls go beyond 512, which the class does not count. */
    private void compareAll() {
        due("digest", x.digest(), model.digest());
        for (int k = 0; k < model.count(2); k++) {
            for (int what = 0; what < 30; what++) {
                due("about", x.about(k, what), model.about(k, what));
            }
            for (int i = 0; i < 7; i++) {
                for (int d = 0; d < 3; d++) {
                    due("laid", x.laid(k, i, d), model.laid(k, i, d));
                }
            }
        }
        for (int h = 0; h < model.count(0); h++) {
            for (int night = 0; night < 40; night++) {
                due("isShut", x.isShut(h, night), model.isShut(h, night));
                due("suppers", x.suppers(h, night), model.suppers(h, night));
                for (int d = -1; d < 3; d++) {
                    due("free", x.free(h, d, night), model.free(h, d, night));
                }
            }
        }
    }

    private void live() {
        int dice = random.nextInt(20);
        if (dice < 9) {
            askAlongStages();
        } else if (dice < 12) {
            evening();
        } else if (dice < 14) {
            int h = random.nextInt(model.count(0));
            int from = model.count(3) + 1 + random.nextInt(3);
            due("shut", x.shut(h, from, from), model.shut(h, from, from));
        } else {
            call(pick());
        }
        due("digest", x.digest(), model.digest());
    }

    /** A chain of one to seven nights whose houses are mostly joined, then given in one way or another. */
    private void askAlongStages() {
        int size = 1 + random.nextInt(random.nextInt(3) == 0 ? 12 : 4);
        int night = model.count(3) + random.nextInt(3);
        int at = random.nextInt(model.count(0));
        int k = model.chain(size, night, at);
        due("chain", x.chain(size, night, at), k);
        int nights = random.nextInt(7);
        for (int i = 0; i < nights && k >= 0; i++) {
            int next = random.nextInt(model.count(0));
            for (int tries = 0; tries < 5 && !joined[at][next]; tries++) {
                next = random.nextInt(model.count(0));
            }
            due("add", x.add(k, next), model.add(k, next));
            at = next;
        }
        int dice = random.nextInt(5);
        if (dice == 0) {
            int mark = random.nextInt(4);
            due("letter", x.letter(k, mark, mark + 1), model.letter(k, mark, mark + 1));
        } else if (dice < 3) {
            due("give", x.give(k), model.give(k));
        } else {
            due("take", x.take(k), model.take(k));
        }
    }

    private void evening() {
        for (int k = 0; k < model.count(2); k++) {
            boolean laidNow = model.about(k, 3) == 1
                && model.about(k, 20 + model.count(3) - model.about(k, 1)) == 1;
            if (laidNow && random.nextInt(5) > 0) {
                due("arrive", x.arrive(k), model.arrive(k));
            }
        }
        for (int doors = random.nextInt(4); doors > 0; doors--) {
            int h = random.nextInt(model.count(0));
            int n = 1 + random.nextInt(9);
            int hour = 12 + random.nextInt(12);
            due("door", x.door(h, n, hour), model.door(h, n, hour));
        }
        due("pass", x.pass(), model.pass());
    }

    private int pick() {
        int sum = 0;
        for (int w : weights) {
            sum += w;
        }
        int left = random.nextInt(sum);
        for (int k = 0; k < weights.length; k++) {
            left -= weights[k];
            if (left < 0) {
                return k;
            }
        }
        return 0;
    }

    /** A number from least to most; seldom one just beyond, or a wild one. */
    private int number(int least, int most) {
        int dice = random.nextInt(60);
        if (dice == 0) {
            return least - 1;
        }
        if (dice == 1) {
            return most + 1;
        }
        if (dice == 2 && random.nextInt(4) == 0) {
            return random.nextInt();
        }
        return least + random.nextInt(Math.max(1, most - least + 1));
    }

    private int someHouse() {
        return number(0, model.count(0) - 1);
    }

    private int someChain() {
        int n = model.count(2);
        // Mostly a late one, since early ones are soon gone.
        return random.nextBoolean() ? number(Math.max(0, n - 5), n - 1) : number(0, n - 1);
    }

    private int someNight() {
        return number(model.count(3), Math.min(39, model.count(3) + startsWithin));
    }

    private void due(String what, long got, long want) {
        calls++;
        check.due("run " + run + " " + what, got, want);
    }

    private void call(int which) {
        if (which < 6) {
            houses(which);
        } else if (which < 15) {
            chains(which);
        } else {
            nights(which);
        }
    }

    private void houses(int which) {
        int h = someHouse();
        int g = someHouse();
        int n = number(0, 9);
        int night = number(0, 39);
        int from = someNight() + 1;
        int to = from + number(0, 2);
        int beds = number(0, bedLimit);
        int hour = number(0, 23);
        int d = number(-1, 2);
        int more = random.nextInt(3);
        if (which == 0 && model.count(0) >= houseLimit && houseLimit < 12) {
            which = 1;
        }
        switch (which) {
            case 0 -> due("house", x.house(beds, n, more, hour), model.house(beds, n, more, hour));
            case 1 -> {
                int told = model.stage(h, g, 1 + night);
                due("stage", x.stage(h, g, 1 + night), told);
                if (told > 0) {
                    joined[h][g] = true;
                    joined[g][h] = true;
                }
            }
            case 2 -> due("chores", x.chores(h, n), model.chores(h, n));
            case 3 -> due("free", x.free(h, d, night), model.free(h, d, night));
            case 4 -> due("isShut", x.isShut(h, night), model.isShut(h, night));
            default -> due("shut", x.shut(h, from, to), model.shut(h, from, to));
        }
    }

    private void chains(int which) {
        int k = someChain();
        int h = someHouse();
        int i = number(0, 6);
        int size = random.nextInt(4) == 0 ? number(1, 12) : number(1, 3);
        int night = someNight();
        int[] kinds = {number(0, 6), 10 + i, 20 + i, random.nextInt(30)};
        int what = kinds[random.nextInt(4)];
        int d = number(0, 2);
        switch (which) {
            case 6 -> due("chain", x.chain(size, night, h), model.chain(size, night, h));
            case 7 -> due("add", x.add(k, h), model.add(k, h));
            case 8 -> due("give", x.give(k), model.give(k));
            case 9 -> due("other", x.other(k), model.other(k));
            case 10 -> due("offered", x.offered(k, i), model.offered(k, i));
            case 11 -> due("take", x.take(k), model.take(k));
            case 12 -> due("giveUp", x.giveUp(k), model.giveUp(k));
            case 13 -> due("about", x.about(k, what), model.about(k, what));
            default -> due("laid", x.laid(k, i, d), model.laid(k, i, d));
        }
    }

    private void nights(int which) {
        int k = someChain();
        int h = someHouse();
        int mark = random.nextInt(8) == 0 ? number(0, 999) : number(0, 5);
        int day = mark + number(0, 5);
        int night = someNight();
        int hour = number(0, 23);
        int n = number(1, 9);
        int what = number(0, 9);
        switch (which) {
            case 15 -> due("letter", x.letter(k, mark, day), model.letter(k, mark, day));
            case 16 -> due("open", x.open(day), model.open(day));
            case 17 -> due("arrive", x.arrive(k), model.arrive(k));
            case 18 -> due("door", x.door(h, n, hour), model.door(h, n, hour));
            case 19 -> due("pass", x.pass(), model.pass());
            case 20 -> due("suppers", x.suppers(h, night), model.suppers(h, night));
            case 21 -> due("list", x.list(night, hour * 5), model.list(night, hour * 5));
            case 22 -> due("count", x.count(what), model.count(what));
            default -> due("digest", x.digest(), model.digest());
        }
    }
}
