/**
 * Houses for walkers a day apart. The document (DOC.md) numbers the promises that the public
 * methods keep. All rows are made in constructors, so that no later call makes an object.
 */
public final class WalkHouses {
    public static final int NONE = -1, BAD = -2, NOT = -3, FULL = -4;

    private static final int MAX_HOUSES = 12, DORMS = 3, MAX_BEDS = 9, LAST_HOUR = 23;
    private static final int MAX_STAGES = 40, MAX_MILES = 40, MAX_CHORES = 9;
    private static final int NIGHTS = 40, MAX_WALKERS = 9;
    private static final int MAX_CHAINS = 40, MAX_SIZE = 12, MAX_LENGTH = 7;
    private static final int MAX_LETTERS = 40, LAST_DAY = 999;
    private static final int MAX_LINES = 20, MAX_HUNDREDTHS = 100;
    private static final int ASKED = 0, GIVEN = 1, REFUSED = 2, GONE = 3;
    private static final int COUNTS = 10, ABOUT_HOUSES = 10, ABOUT_LAID = 20;
    /** The sets of dorms as bits, in the order in which laying tries them: fewest first, then least. */
    private static final int[] DORM_SETS = {1, 2, 4, 3, 5, 6, 7};
    private static final long DIGEST_START = 17L, DIGEST_FACTOR = 31L;

    private final Road road = new Road();
    private final WayFinder finder = new WayFinder(road);
    private final Chain[] chains = new Chain[MAX_CHAINS];
    private final Letters letters = new Letters();
    private final PayBack payBack = new PayBack();
    private final int[] bedsOfWalkers = new int[DORMS];
    private int chainCount;
    private int now;
    private int walkersSoFar;

    public WalkHouses() {
        for (int k = 0; k < MAX_CHAINS; k++) {
            chains[k] = new Chain();
        }
    }

    // ---- houses

    public int house(int a, int b, int c, int hour) {
        boolean dormsFit = within(a, 0, MAX_BEDS) && within(b, 0, MAX_BEDS) && within(c, 0, MAX_BEDS);
        if (!dormsFit || a + b + c == 0 || !within(hour, 0, LAST_HOUR)) {
            return BAD;
        }
        return road.build(a, b, c, hour);
    }

    public int stage(int a, int b, int miles) {
        if (!road.hasHouse(a) || !road.hasHouse(b) || !within(miles, 1, MAX_MILES)) {
            return BAD;
        }
        if (road.joined(a, b)) {
            return BAD;
        }
        return road.join(a, b, miles);
    }

    public int chores(int house, int n) {
        if (!road.hasHouse(house) || !within(n, 0, MAX_CHORES)) {
            return BAD;
        }
        House there = road.houses[house];
        int before = there.chores;
        there.chores = n;
        return before;
    }

    public int free(int house, int d, int night) {
        if (!road.hasHouse(house) || !within(d, NONE, DORMS - 1) || !isNight(night)) {
            return BAD;
        }
        House there = road.houses[house];
        return d == NONE ? there.freeBeds(night) : there.freeIn[night * DORMS + d];
    }

    public int isShut(int house, int night) {
        if (!road.hasHouse(house) || !isNight(night)) {
            return BAD;
        }
        return road.houses[house].shut[night] ? 1 : 0;
    }

    public int shut(int house, int from, int to) {
        if (!road.hasHouse(house) || from <= now || to >= NIGHTS || from > to) {
            return BAD;
        }
        road.houses[house].close(from, to);
        int withoutWay = 0;
        for (int k = 0; k < chainCount; k++) {
            Chain chain = chains[k];
            if (chain.state == GIVEN && chain.isLaidBetween(house, from, to) && !leadRound(chain)) {
                withoutWay++;
            }
        }
        return withoutWay;
    }

    // ---- chains

    public int chain(int size, int night, int house) {
        if (!within(size, 1, MAX_SIZE) || !within(night, now, NIGHTS - 1) || !road.hasHouse(house)) {
            return BAD;
        }
        if (chainCount >= MAX_CHAINS) {
            return FULL;
        }
        chains[chainCount].ask(size, night, house);
        chainCount++;
        return chainCount - 1;
    }

    public int add(int chain, int house) {
        if (!isChain(chain) || !road.hasHouse(house)) {
            return BAD;
        }
        Chain asked = chains[chain];
        if (asked.first + asked.length >= NIGHTS) {
            return BAD;
        }
        if (asked.state != ASKED) {
            return NOT;
        }
        if (asked.length >= MAX_LENGTH) {
            return FULL;
        }
        asked.way[asked.length] = house;
        asked.length++;
        return asked.length;
    }

    public int give(int chain) {
        if (!isChain(chain)) {
            return BAD;
        }
        if (!canBeGiven(chains[chain])) {
            return NOT;
        }
        return giveOwnWay(chains[chain]);
    }

    public int other(int chain) {
        if (!isChain(chain)) {
            return BAD;
        }
        if (!canBeGiven(chains[chain])) {
            return NOT;
        }
        return finder.find(chains[chain], NONE);
    }

    public int offered(int chain, int i) {
        if (!isChain(chain) || !within(i, 0, chains[chain].length - 1)) {
            return BAD;
        }
        if (!canBeGiven(chains[chain])) {
            return NOT;
        }
        return finder.find(chains[chain], NONE) == NONE ? NONE : finder.found[i];
    }

    public int take(int chain) {
        if (!isChain(chain)) {
            return BAD;
        }
        Chain asked = chains[chain];
        if (!canBeGiven(asked)) {
            return NOT;
        }
        int changed = finder.find(asked, NONE);
        if (changed != NONE) {
            asked.follow(finder.found, 0);
            layFrom(asked, 0);
            asked.state = GIVEN;
        }
        return changed;
    }

    public int giveUp(int chain) {
        if (!isChain(chain)) {
            return BAD;
        }
        Chain given = chains[chain];
        if (given.state != GIVEN || given.first <= now) {
            return NOT;
        }
        liftFrom(given, 0);
        given.state = REFUSED;
        return payBack.hundredthsFor(given.first - now);
    }

    public int about(int chain, int what) {
        if (!isChain(chain)) {
            return BAD;
        }
        Chain told = chains[chain];
        if (within(what, ABOUT_HOUSES, ABOUT_HOUSES + told.length - 1)) {
            return told.way[what - ABOUT_HOUSES];
        }
        if (within(what, ABOUT_LAID, ABOUT_LAID + told.length - 1)) {
            return told.isLaid(what - ABOUT_LAID) ? 1 : 0;
        }
        switch (what) {
            case 0: return told.size;
            case 1: return told.first;
            case 2: return told.length;
            case 3: return told.state;
            case 4: return road.milesSlept(told);
            case 5: return told.done;
            case 6: return told.nightsSlept();
            default: return BAD;
        }
    }

    public int laid(int chain, int i, int d) {
        if (!isChain(chain) || !within(i, 0, chains[chain].length - 1) || !within(d, 0, DORMS - 1)) {
            return BAD;
        }
        return chains[chain].laidIn[i * DORMS + d];
    }

    // ---- letters

    public int letter(int chain, int mark, int day) {
        if (!isChain(chain) || !within(mark, 0, LAST_DAY) || !within(day, mark, LAST_DAY)) {
            return BAD;
        }
        if (chains[chain].state != ASKED) {
            return NOT;
        }
        return letters.receive(chain, mark, day);
    }

    public int open(int day) {
        if (!within(day, 0, LAST_DAY)) {
            return BAD;
        }
        int given = 0;
        for (int k = 0; k < MAX_LETTERS; k++) {
            int next = letters.nextToOpen(day);
            if (next == NONE) {
                break;
            }
            letters.opened[next] = true;
            if (answer(chains[letters.chain[next]])) {
                given++;
            }
        }
        return given;
    }

    // ---- nights

    public int arrive(int chain) {
        if (!isChain(chain)) {
            return BAD;
        }
        Chain comer = chains[chain];
        if (!comer.isLaidOn(now) || comer.arrived[now - comer.first]) {
            return NOT;
        }
        comer.arrived[now - comer.first] = true;
        return 1;
    }

    public int door(int house, int n, int hour) {
        if (!road.hasHouse(house) || !within(n, 1, MAX_WALKERS) || !within(hour, 0, LAST_HOUR)) {
            return BAD;
        }
        House there = road.houses[house];
        if (there.shut[now]) {
            return NOT;
        }
        int lost = 0;
        if (there.freeBeds(now) < n) {
            if (hour < there.hour || there.freeBeds(now) + bedsOfLate(house) < n) {
                return NONE;
            }
            lost = clearLate(house, n);
        }
        there.fill(now, n, bedsOfWalkers, 0);
        there.walkersTonight += n;
        walkersSoFar += n;
        return lost;
    }

    public int pass() {
        if (now >= NIGHTS - 1) {
            return FULL;
        }
        int sleepers = sleepTonight();
        for (int h = 0; h < road.houseCount; h++) {
            doChores(h);
            road.houses[h].endNight();
        }
        endChains();
        now++;
        return sleepers;
    }

    public int suppers(int house, int night) {
        if (!road.hasHouse(house) || !within(night, now, NIGHTS - 1)) {
            return BAD;
        }
        int people = 0;
        for (int k = 0; k < chainCount; k++) {
            if (chains[k].isLaidAt(house, night)) {
                people += chains[k].size;
            }
        }
        // Night n is now just when n nights passed.
        int fromDoor = now > 0 ? road.houses[house].walkersPassed / now : 0;
        return people + fromDoor;
    }

    public int list(int notice, int hundredths) {
        if (!isNight(notice) || !within(hundredths, 0, MAX_HUNDREDTHS)) {
            return BAD;
        }
        return payBack.write(notice, hundredths);
    }

    public int count(int what) {
        switch (what) {
            case 0: return road.houseCount;
            case 1: return road.stageCount;
            case 2: return chainCount;
            case 3: return now;
            case 4: return letters.unopened();
            case 5: return chainsThatAre(GIVEN);
            case 6: return chainsThatAre(REFUSED);
            case 7: return chainsThatAre(GONE);
            case 8: return payBack.lineCount;
            case 9: return walkersSoFar;
            default: return BAD;
        }
    }

    public long digest() {
        long h = DIGEST_START;
        for (int what = 0; what < COUNTS; what++) {
            h = DIGEST_FACTOR * h + count(what);
        }
        for (int k = 0; k < chainCount; k++) {
            for (int what = 3; what <= 6; what++) {
                h = DIGEST_FACTOR * h + about(k, what);
            }
            for (int i = 0; i < chains[k].length; i++) {
                h = DIGEST_FACTOR * h + chains[k].way[i];
            }
        }
        for (int k = 0; k < road.houseCount; k++) {
            for (int night = now; night < NIGHTS; night++) {
                h = DIGEST_FACTOR * h + road.houses[k].freeBeds(night);
            }
        }
        return h;
    }

    // ---- what the calls share

    private static boolean within(int x, int least, int greatest) {
        return x >= least && x <= greatest;
    }

    private static boolean isNight(int night) {
        return within(night, 0, NIGHTS - 1);
    }

    private boolean isChain(int chain) {
        return within(chain, 0, chainCount - 1);
    }

    private boolean canBeGiven(Chain chain) {
        return chain.state == ASKED && chain.first >= now;
    }

    private int chainsThatAre(int state) {
        int n = 0;
        for (int k = 0; k < chainCount; k++) {
            if (chains[k].state == state) {
                n++;
            }
        }
        return n;
    }

    /** NONE, or the first of its nights that bars it. */
    private int giveOwnWay(Chain chain) {
        int bar = road.firstBar(chain);
        if (bar == NONE) {
            layFrom(chain, 0);
            chain.state = GIVEN;
        }
        return bar;
    }

    /** What a letter does to its chain; whether the chain is given by it. */
    private boolean answer(Chain chain) {
        if (chain.state != ASKED) {
            return false;
        }
        if (canBeGiven(chain) && giveOwnWay(chain) == NONE) {
            return true;
        }
        chain.state = REFUSED;
        return false;
    }

    private void layFrom(Chain chain, int from) {
        for (int i = from; i < chain.length; i++) {
            road.houses[chain.way[i]].fill(chain.first + i, chain.size, chain.laidIn, i * DORMS);
        }
    }

    private void liftFrom(Chain chain, int from) {
        for (int i = from; i < chain.length; i++) {
            road.houses[chain.way[i]].clear(chain.first + i, chain.laidIn, i * DORMS);
        }
    }

    /** Leads a given chain round in its nights behind now; false: there is no other way. */
    private boolean leadRound(Chain chain) {
        int stays = Math.max(now - chain.first, NONE);
        liftFrom(chain, stays + 1);
        if (finder.find(chain, stays) != NONE) {
            chain.follow(finder.found, stays + 1);
            layFrom(chain, stays + 1);
            return true;
        }
        if (stays == NONE) {
            chain.state = REFUSED;
        } else {
            chain.length = stays + 1;
        }
        return false;
    }

    private boolean isLate(Chain chain, int house) {
        return chain.isLaidAt(house, now) && !chain.arrived[now - chain.first];
    }

    private int bedsOfLate(int house) {
        int beds = 0;
        for (int k = 0; k < chainCount; k++) {
            if (isLate(chains[k], house)) {
                beds += chains[k].size;
            }
        }
        return beds;
    }

    /** Takes tonight's beds from late chains till n are free; how many chains lost them. */
    private int clearLate(int house, int n) {
        House there = road.houses[house];
        int lost = 0;
        for (int k = chainCount - 1; k >= 0 && there.freeBeds(now) < n; k--) {
            if (isLate(chains[k], house)) {
                there.clear(now, chains[k].laidIn, (now - chains[k].first) * DORMS);
                lost++;
            }
        }
        return lost;
    }

    private int sleepTonight() {
        int sleepers = 0;
        for (int k = 0; k < chainCount; k++) {
            if (chains[k].sleep(now)) {
                sleepers++;
            }
        }
        return sleepers;
    }

    private void doChores(int house) {
        for (int chore = 0; chore < road.houses[house].chores; chore++) {
            int doer = leastDone(house);
            if (doer != NONE) {
                chains[doer].done++;
            }
        }
    }

    /** Of the chains that slept in a house tonight the one that did least by its size. */
    private int leastDone(int house) {
        int least = NONE;
        for (int k = 0; k < chainCount; k++) {
            if (chains[k].sleptAt(house, now) && (least == NONE || chains[k].didLessThan(chains[least]))) {
                least = k;
            }
        }
        return least;
    }

    private void endChains() {
        for (int k = 0; k < chainCount; k++) {
            Chain chain = chains[k];
            if (chain.state == GIVEN && chain.first + chain.length - 1 <= now) {
                chain.state = GONE;
            }
        }
    }

    /** A house; one that was not told yet has no beds. */
    private static final class House {
        final int[] freeIn = new int[NIGHTS * DORMS];
        final boolean[] shut = new boolean[NIGHTS];
        final int[] milesTo = new int[MAX_HOUSES];
        int hour;
        int chores;
        int walkersTonight;
        int walkersPassed;

        void furnish(int dorm, int beds) {
            for (int night = 0; night < NIGHTS; night++) {
                freeIn[night * DORMS + dorm] = beds;
            }
        }

        int freeBeds(int night) {
            int n = 0;
            for (int d = 0; d < DORMS; d++) {
                n += freeIn[night * DORMS + d];
            }
            return n;
        }

        boolean hasRoom(int night, int n) {
            return !shut[night] && freeBeds(night) >= n;
        }

        void close(int from, int to) {
            for (int night = from; night <= to; night++) {
                shut[night] = true;
            }
        }

        int freeInSet(int set, int night) {
            int n = 0;
            for (int d = 0; d < DORMS; d++) {
                if ((set >> d & 1) == 1) {
                    n += freeIn[night * DORMS + d];
                }
            }
            return n;
        }

        /** The set of dorms that n people are laid in; 0: there is none. */
        int dormsFor(int night, int n) {
            for (int k = 0; k < DORM_SETS.length; k++) {
                if (freeInSet(DORM_SETS[k], night) >= n) {
                    return DORM_SETS[k];
                }
            }
            return 0;
        }

        /** Lays n people, and writes into a row, from a place on, how many are in each dorm. */
        void fill(int night, int n, int[] row, int at) {
            int set = dormsFor(night, n);
            int left = n;
            for (int d = 0; d < DORMS; d++) {
                int here = (set >> d & 1) == 1 ? Math.min(left, freeIn[night * DORMS + d]) : 0;
                freeIn[night * DORMS + d] -= here;
                row[at + d] = here;
                left -= here;
            }
        }

        /** Undoes what fill wrote into that row. */
        void clear(int night, int[] row, int at) {
            for (int d = 0; d < DORMS; d++) {
                freeIn[night * DORMS + d] += row[at + d];
                row[at + d] = 0;
            }
        }

        void endNight() {
            walkersPassed += walkersTonight;
            walkersTonight = 0;
        }
    }

    /** The houses and the stages between them. */
    private static final class Road {
        final House[] houses = new House[MAX_HOUSES];
        int houseCount;
        int stageCount;

        Road() {
            for (int h = 0; h < MAX_HOUSES; h++) {
                houses[h] = new House();
            }
        }

        boolean hasHouse(int h) {
            return within(h, 0, houseCount - 1);
        }

        int build(int a, int b, int c, int hour) {
            if (houseCount >= MAX_HOUSES) {
                return FULL;
            }
            House built = houses[houseCount];
            built.furnish(0, a);
            built.furnish(1, b);
            built.furnish(2, c);
            built.hour = hour;
            houseCount++;
            return houseCount - 1;
        }

        int join(int a, int b, int miles) {
            if (stageCount >= MAX_STAGES) {
                return FULL;
            }
            houses[a].milesTo[b] = miles;
            houses[b].milesTo[a] = miles;
            stageCount++;
            return stageCount;
        }

        /** Whether a walker can be in the one house a night and in the other the next. */
        boolean joined(int a, int b) {
            return a == b || houses[a].milesTo[b] > 0;
        }

        /** NONE, or the first night of a chain that keeps its way from being open. */
        int firstBar(Chain chain) {
            for (int i = 0; i < chain.length; i++) {
                boolean reached = i == 0 || joined(chain.way[i - 1], chain.way[i]);
                if (!reached || !houses[chain.way[i]].hasRoom(chain.first + i, chain.size)) {
                    return i;
                }
            }
            return NONE;
        }

        int milesSlept(Chain chain) {
            int miles = 0;
            for (int i = 1; i < chain.length; i++) {
                if (chain.slept[i - 1] && chain.slept[i]) {
                    // A house has no miles to itself.
                    miles += houses[chain.way[i - 1]].milesTo[chain.way[i]];
                }
            }
            return miles;
        }
    }

    /** A chain of nights; one that was not told yet has no houses. */
    private static final class Chain {
        final int[] way = new int[MAX_LENGTH];
        final int[] laidIn = new int[MAX_LENGTH * DORMS];
        final boolean[] arrived = new boolean[MAX_LENGTH];
        final boolean[] slept = new boolean[MAX_LENGTH];
        int size;
        int first;
        int length;
        int state;
        int done;

        void ask(int people, int night, int house) {
            size = people;
            first = night;
            way[0] = house;
            length = 1;
        }

        void follow(int[] newWay, int from) {
            for (int i = from; i < length; i++) {
                way[i] = newWay[i];
            }
        }

        boolean isLaid(int i) {
            int people = 0;
            for (int d = 0; d < DORMS; d++) {
                people += laidIn[i * DORMS + d];
            }
            return people > 0;
        }

        boolean has(int night) {
            return within(night - first, 0, length - 1);
        }

        boolean isLaidOn(int night) {
            return has(night) && isLaid(night - first);
        }

        boolean isLaidAt(int house, int night) {
            return isLaidOn(night) && way[night - first] == house;
        }

        boolean isLaidBetween(int house, int from, int to) {
            for (int night = from; night <= to; night++) {
                if (isLaidAt(house, night)) {
                    return true;
                }
            }
            return false;
        }

        /** Whether it slept the night that passes. */
        boolean sleep(int night) {
            if (!has(night) || !arrived[night - first]) {
                return false;
            }
            slept[night - first] = true;
            return true;
        }

        boolean sleptAt(int house, int night) {
            return has(night) && slept[night - first] && way[night - first] == house;
        }

        int nightsSlept() {
            int n = 0;
            for (int i = 0; i < length; i++) {
                if (slept[i]) {
                    n++;
                }
            }
            return n;
        }

        /** Compares chores done by each of its people, without dividing. */
        boolean didLessThan(Chain that) {
            return done * that.size < that.done * size;
        }
    }

    /** Finds the open way that parts from a chain's own in the fewest nights. */
    private static final class WayFinder {
        private static final int NO_WAY = 1000;
        final Road road;
        final int[] parting = new int[MAX_LENGTH * MAX_HOUSES];
        final int[] found = new int[MAX_LENGTH];

        WayFinder(Road road) {
            this.road = road;
        }

        /**
         * In how many nights the other way parts from the chain's, and the way itself in found;
         * NONE: there is none. The houses up to night number 'stays' of the chain are kept
         * unasked (NONE: all nights are asked for).
         */
        int find(Chain chain, int stays) {
            int from = Math.max(stays, 0);
            for (int i = chain.length - 1; i >= from; i--) {
                for (int h = 0; h < road.houseCount; h++) {
                    parting[i * MAX_HOUSES + h] = leastParting(chain, stays, i, h);
                }
            }
            int least = parting[from * MAX_HOUSES + chain.way[from]];
            if (least >= NO_WAY) {
                return NONE;
            }
            trace(chain, from);
            return least;
        }

        /** Of ways that are in house h in night i the fewest partings from there on. */
        private int leastParting(Chain chain, int stays, int i, int h) {
            if (!canBeIn(chain, stays, i, h)) {
                return NO_WAY;
            }
            int here = chain.way[i] == h ? 0 : 1;
            if (i == chain.length - 1) {
                return here;
            }
            int next = leastNext(i, h);
            return next == NONE ? NO_WAY : here + parting[(i + 1) * MAX_HOUSES + next];
        }

        private boolean canBeIn(Chain chain, int stays, int i, int h) {
            // The first house needs no such test: only ways from it are looked at in the end.
            if (i == chain.length - 1 && chain.way[i] != h) {
                return false;
            }
            return i <= stays || road.houses[h].hasRoom(chain.first + i, chain.size);
        }

        /** The house for the night after i with the fewest partings, the lesser of like ones. */
        private int leastNext(int i, int h) {
            int best = NONE;
            int fewest = NO_WAY;
            for (int g = 0; g < road.houseCount; g++) {
                int partings = parting[(i + 1) * MAX_HOUSES + g];
                if (partings < fewest && road.joined(h, g)) {
                    best = g;
                    fewest = partings;
                }
            }
            return best;
        }

        private void trace(Chain chain, int from) {
            found[from] = chain.way[from];
            for (int i = from + 1; i < chain.length; i++) {
                int next = leastNext(i - 1, found[i - 1]);
                // A way was found, so there always is a next house.
                found[i] = next == NONE ? chain.way[i] : next;
            }
        }
    }

    /** Letters in the order in which they were told. */
    private static final class Letters {
        final int[] chain = new int[MAX_LETTERS];
        final int[] mark = new int[MAX_LETTERS];
        final int[] day = new int[MAX_LETTERS];
        final boolean[] opened = new boolean[MAX_LETTERS];
        int letterCount;

        int receive(int forChain, int marked, int came) {
            if (letterCount >= MAX_LETTERS) {
                return FULL;
            }
            chain[letterCount] = forChain;
            mark[letterCount] = marked;
            day[letterCount] = came;
            letterCount++;
            return letterCount;
        }

        /** The unopened letter with the least mark of those that came up to a day, or NONE. */
        int nextToOpen(int upTo) {
            int next = NONE;
            for (int k = 0; k < letterCount; k++) {
                boolean waits = !opened[k] && day[k] <= upTo;
                if (waits && (next == NONE || mark[k] < mark[next])) {
                    next = k;
                }
            }
            return next;
        }

        int unopened() {
            int n = 0;
            for (int k = 0; k < letterCount; k++) {
                if (!opened[k]) {
                    n++;
                }
            }
            return n;
        }
    }

    /** The list that says how much is paid back. */
    private static final class PayBack {
        final int[] notice = new int[MAX_LINES];
        final int[] hundredths = new int[MAX_LINES];
        int lineCount;

        int write(int nights, int paid) {
            if (lineCount >= MAX_LINES) {
                return FULL;
            }
            notice[lineCount] = nights;
            hundredths[lineCount] = paid;
            lineCount++;
            return lineCount;
        }

        int hundredthsFor(int nightsLeft) {
            int best = NONE;
            for (int k = 0; k < lineCount; k++) {
                // Not less, rather than greater: of like lines the latest told counts.
                if (notice[k] <= nightsLeft && (best == NONE || notice[k] >= notice[best])) {
                    best = k;
                }
            }
            return best == NONE ? 0 : hundredths[best];
        }
    }
}
