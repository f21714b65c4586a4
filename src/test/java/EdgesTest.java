import java.util.function.Consumer;

/**
 * Each number of each call: the last one that is still as told is not BAD, the first one that is not
 * is BAD and changes nothing, on both sides; so are the ends of int. What the calls answer at their
 * edges is told by the other tests.
 */
public final class EdgesTest {
    private static final int BAD = WalkHouses.BAD;
    private static final Check check = new Check();
    private static final Twins twins = new Twins(check);

    public static void main(String[] args) {
        houses();
        chains();
        aboutChains();
        letters();
        nights();
        emptyObject();
        check.end();
    }

    /** In the village this number of the call is as told from least to most. */
    private static void edge(Call call, int place, int least, int most) {
        edge(Scenes::village, call, place, least, most);
    }

    private static void edge(Consumer<WalkHouses> story, Call call, int place, int least, int most) {
        for (int number : new int[] {least, most}) {
            Call fits = call.with(place, number);
            check.holds(fits + " is not BAD", fits.on(Twins.after(story)) != BAD);
        }
        for (int number : new int[] {least - 1, most + 1, Integer.MIN_VALUE, Integer.MAX_VALUE}) {
            twins.changesNothing(story, call.with(place, number), BAD);
        }
    }

    private static void houseEdge(Call call, int place) {
        check.sentence("BAD: no such HOUSE");
        edge(call, place, 0, Scenes.VILLAGE_HOUSES - 1);
        check.sentence("HOUSES 0 .. 11 (12 at most)");
        edge(Scenes::fullOfHouses, call, place, 0, 11);
    }

    private static void chainEdge(Call call) {
        check.sentence("BAD: no such CHAIN");
        edge(call, 0, 0, Scenes.VILLAGE_CHAINS - 1);
        check.sentence("CHAINS 0 .. 39 (40 at most)");
        edge(Scenes::fullOfChains, call, 0, 0, 39);
    }

    private static void houses() {
        Call house = new Call("house", 1, 1, 1, 5);
        check.sentence("BEDS (0 to 9 each)");
        edge(house, 0, 0, 9);
        edge(house, 1, 0, 9);
        edge(house, 2, 0, 9);
        check.sentence("BEDS (not all 0)");
        edge(new Call("house", 1, 0, 0, 5), 0, 1, 9);
        edge(new Call("house", 0, 1, 0, 5), 1, 1, 9);
        edge(new Call("house", 0, 0, 1, 5), 2, 1, 9);
        check.sentence("HOUR (0 to 23)");
        edge(house, 3, 0, 23);
        Call stage = new Call("stage", 2, 3, 7);
        check.sentence("BAD: no such HOUSE");
        edge(stage.with(1, 2), 0, 0, 3);
        edge(stage, 1, 0, 3);
        edge(Scenes::fullOfHouses, stage.with(1, 2), 0, 0, 11);
        edge(Scenes::fullOfHouses, stage, 1, 0, 11);
        check.sentence("MILES (1 to 40)");
        edge(stage, 2, 1, 40);
        houseEdge(new Call("chores", 0, 4), 0);
        check.sentence("CHORES (told; 0 to 9)");
        edge(new Call("chores", 0, 4), 1, 0, 9);
        nightsOfHouses();
    }

    private static void nightsOfHouses() {
        Call free = new Call("free", 0, -1, 5);
        houseEdge(free, 0);
        check.sentence("Free BEDS of DORM d (NONE: all)");
        edge(free, 1, -1, 2);
        check.sentence("NIGHTS are 0 .. 39");
        edge(free, 2, 0, 39);
        houseEdge(new Call("isShut", 0, 5), 0);
        check.sentence("NIGHTS are 0 .. 39");
        edge(new Call("isShut", 0, 5), 1, 0, 39);
        Call shut = new Call("shut", 2, 20, 25);
        houseEdge(shut, 0);
        check.sentence("BAD: NIGHTS not behind now, from above to");
        edge(shut, 1, Scenes.VILLAGE_NIGHT + 1, 25);
        check.sentence("BAD: above 39, from above to");
        edge(shut, 2, 20, 39);
        edge(shut.with(2, 39), 1, Scenes.VILLAGE_NIGHT + 1, 39);
        edge(shut.with(1, 3), 2, 3, 39);
    }

    private static void chains() {
        Call chain = new Call("chain", 1, 5, 0);
        check.sentence("BAD: SIZE (1 to 12)");
        edge(chain, 0, 1, 12);
        check.sentence("BAD: first NIGHT 0 to 39, not ahead of now");
        edge(chain, 1, Scenes.VILLAGE_NIGHT, 39);
        edge(x -> x.house(1, 0, 0, 0), chain, 1, 0, 39);
        edge(Scenes::lastNight, chain, 1, 39, 39);
        houseEdge(chain, 2);
        houseEdge(new Call("add", Scenes.ASKED, 0), 1);
        String[] ofOneChain = {"give", "other", "take", "giveUp", "arrive"};
        for (String name : ofOneChain) {
            chainEdge(new Call(name, 0));
        }
        chainEdge(new Call("add", 0, 0));
        chainEdge(new Call("offered", 0, 0));
        chainEdge(new Call("about", 0, 0));
        chainEdge(new Call("laid", 0, 0, 0));
        chainEdge(new Call("letter", 0, 0, 0));
    }

    private static void aboutChains() {
        check.sentence("The HOUSE of its NIGHT i. BAD");
        edge(new Call("offered", Scenes.ASKED, 0), 1, 0, 1);
        edge(new Call("offered", Scenes.ASKED_SEVEN, 0), 1, 0, 6);
        edge(new Call("offered", Scenes.GONE, 0), 1, 0, 0);
        check.sentence("0 SIZE .. 6 NIGHTS SLEPT. BAD");
        edge(new Call("about", Scenes.ASKED, 0), 1, 0, 6);
        int[] chains = {Scenes.GONE, Scenes.ASKED, Scenes.LATE, Scenes.ASKED_TO_39, Scenes.GIVEN_SEVEN};
        int[] lengths = {1, 2, 3, 5, 7};
        for (int k = 0; k < chains.length; k++) {
            int last = lengths[k] - 1;
            check.sentence("10 + i its HOUSE i. BAD");
            edge(new Call("about", chains[k], 0), 1, 10, 10 + last);
            check.sentence("20 + i whether it is LAID in NIGHT i of it. BAD");
            edge(new Call("about", chains[k], 0), 1, 20, 20 + last);
            check.sentence("How many of a CHAIN are laid in DORM d in NIGHT i of it. BAD");
            edge(new Call("laid", chains[k], 0, 0), 1, 0, last);
            edge(new Call("laid", chains[k], 0, 0), 2, 0, 2);
        }
    }

    private static void letters() {
        Call letter = new Call("letter", Scenes.ASKED, 5, 9);
        check.sentence("BAD: MARK, and a day ahead of MARK");
        edge(letter, 1, 0, 9);
        edge(letter.with(2, 999), 1, 0, 999);
        check.sentence("BAD: day 0 to 999 and not ahead of MARK");
        edge(letter, 2, 5, 999);
        edge(letter.with(1, 0), 2, 0, 999);
        edge(letter.with(1, 999), 2, 999, 999);
        check.sentence("OPENING up to a day (0 to 999). BAD");
        edge(new Call("open", 5), 0, 0, 999);
    }

    private static void nights() {
        Call door = new Call("door", 3, 1, 5);
        houseEdge(door, 0);
        check.sentence("n walkers (1 to 9)");
        edge(door, 1, 1, 9);
        check.sentence("at an hour (0 to 23)");
        edge(door, 2, 0, 23);
        houseEdge(new Call("suppers", 0, 5), 0);
        check.sentence("SUPPERS for a NIGHT (not ahead of now)");
        edge(new Call("suppers", 0, 5), 1, Scenes.VILLAGE_NIGHT, 39);
        edge(Scenes::lastNight, new Call("suppers", 0, 5), 1, 39, 39);
        edge(x -> x.house(1, 0, 0, 0), new Call("suppers", 0, 5), 1, 0, 39);
        check.sentence("NOTICE (0 to 39)");
        edge(new Call("list", 5, 5), 0, 0, 39);
        check.sentence("hundredths (0 to 100)");
        edge(new Call("list", 5, 5), 1, 0, 100);
        check.sentence("count: 0 HOUSES .. 9 walkers. BAD");
        edge(new Call("count", 0), 0, 0, 9);
    }

    /** Where there are no houses and chains yet, each call that names one is BAD. */
    private static void emptyObject() {
        check.sentence("No HOUSES, CHAINS");
        Call[] calls = {new Call("stage", 0, 1, 1), new Call("chores", 0, 0), new Call("free", 0, -1, 0),
            new Call("isShut", 0, 0), new Call("shut", 0, 1, 1), new Call("chain", 1, 0, 0), new Call("add", 0, 0),
            new Call("give", 0), new Call("other", 0), new Call("offered", 0, 0), new Call("take", 0),
            new Call("giveUp", 0), new Call("about", 0, 0), new Call("laid", 0, 0, 0), new Call("letter", 0, 0, 0),
            new Call("arrive", 0), new Call("door", 0, 1, 0), new Call("suppers", 0, 0)};
        for (Call call : calls) {
            twins.changesNothing(x -> { }, call, BAD);
        }
        check.sentence("No CHAINS");
        for (Call call : calls) {
            if (!"stage chores free isShut shut chain door suppers".contains(call.name())) {
                twins.changesNothing(x -> x.house(1, 0, 0, 0), call, BAD);
            }
        }
    }
}
