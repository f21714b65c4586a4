import java.util.ArrayList;
import java.util.Comparator;
import java.util.List;

/**
 * The document told a second time, in another way: each bed of each night knows who lies in it, and
 * sets of dorms and ways are all written out and the best is picked by comparing.
 */
final class SlowModel {
    private static final int NONE = -1, BAD = -2, NOT = -3, FULL = -4;
    private static final String WALKER = "walker";

    private enum How { ASKED, GIVEN, REFUSED, GONE }

    /** bed[night][dorm] lists who lies there: a Chain, WALKER, or null. */
    private static final class House {
        final int number;
        final int hour;
        final Object[][][] bed = new Object[40][3][];
        final boolean[] shut = new boolean[40];
        final int[] walkers = new int[40];
        int chores;

        House(int number, int[] beds, int hour) {
            this.number = number;
            this.hour = hour;
            for (int night = 0; night < 40; night++) {
                for (int d = 0; d < 3; d++) {
                    bed[night][d] = new Object[beds[d]];
                }
            }
        }

        int with(Object who, int night, int d) {
            int n = 0;
            for (Object lies : bed[night][d]) {
                n += lies == who ? 1 : 0;
            }
            return n;
        }

        int with(Object who, int night) {
            return with(who, night, 0) + with(who, night, 1) + with(who, night, 2);
        }

        void lift(Object who, int night) {
            for (Object[] dorm : bed[night]) {
                for (int i = 0; i < dorm.length; i++) {
                    dorm[i] = dorm[i] == who ? null : dorm[i];
                }
            }
        }

        void lay(Object who, int n, int night) {
            List<List<Integer>> sets = new ArrayList<>();
            for (int bits = 0; bits < 8; bits++) {
                List<Integer> set = new ArrayList<>();
                int room = 0;
                for (int d = 0; d < 3; d++) {
                    if ((bits & 1 << d) != 0) {
                        set.add(d);
                        room += with(null, night, d);
                    }
                }
                if (room >= n) {
                    sets.add(set);
                }
            }
            // The sort keeps the order of bits among sets of like size.
            sets.sort(Comparator.comparingInt(List::size));
            int left = n;
            for (int d : sets.get(0)) {
                Object[] dorm = bed[night][d];
                for (int i = 0; i < dorm.length && left > 0; i++) {
                    if (dorm[i] == null) {
                        dorm[i] = who;
                        left--;
                    }
                }
            }
            if (left != 0) {
                throw new IllegalStateException("the model laid too few");
            }
        }
    }

    private static final class Chain {
        final int size;
        final int first;
        final List<Integer> way = new ArrayList<>();
        final List<Integer> arrived = new ArrayList<>();
        How how = How.ASKED;
        int done;

        Chain(int size, int first) {
            this.size = size;
            this.first = first;
        }
    }

    private record Stage(int a, int b, int miles) {
        boolean joins(int x, int y) {
            return a == x && b == y || a == y && b == x;
        }
    }

    private record Letter(Chain chain, int mark, int day) { }

    private record Line(int notice, int hundredths) { }

    private final List<House> houses = new ArrayList<>();
    private final List<Stage> stages = new ArrayList<>();
    private final List<Chain> chains = new ArrayList<>();
    private final List<Letter> unopened = new ArrayList<>();
    private final List<Line> lines = new ArrayList<>();
    private int lettersTold;
    private int now;

    int house(int a, int b, int c, int hour) {
        for (int beds : new int[] {a, b, c}) {
            if (beds < 0 || beds > 9) {
                return BAD;
            }
        }
        if (a == 0 && b == 0 && c == 0 || hour < 0 || hour > 23) {
            return BAD;
        }
        if (houses.size() == 12) {
            return FULL;
        }
        houses.add(new House(houses.size(), new int[] {a, b, c}, hour));
        return houses.size() - 1;
    }

    int stage(int a, int b, int miles) {
        if (noHouse(a) || noHouse(b) || a == b || miles < 1 || miles > 40 || stageOf(a, b) != null) {
            return BAD;
        }
        if (stages.size() == 40) {
            return FULL;
        }
        stages.add(new Stage(a, b, miles));
        return stages.size();
    }

    int chores(int house, int n) {
        if (noHouse(house) || n < 0 || n > 9) {
            return BAD;
        }
        int before = houses.get(house).chores;
        houses.get(house).chores = n;
        return before;
    }

    int free(int house, int d, int night) {
        if (noHouse(house) || d < -1 || d > 2 || noNight(night)) {
            return BAD;
        }
        return d == NONE ? houses.get(house).with(null, night) : houses.get(house).with(null, night, d);
    }

    int isShut(int house, int night) {
        return noHouse(house) || noNight(night) ? BAD : houses.get(house).shut[night] ? 1 : 0;
    }

    int shut(int house, int from, int to) {
        if (noHouse(house) || from <= now || to > 39 || from > to) {
            return BAD;
        }
        for (int night = from; night <= to; night++) {
            houses.get(house).shut[night] = true;
        }
        List<Chain> met = new ArrayList<>();
        for (Chain k : chains) {
            boolean there = false;
            for (int night = from; night <= to; night++) {
                there |= houses.get(house).with(k, night) > 0;
            }
            if (there && k.how == How.GIVEN) {
                met.add(k);
            }
        }
        int without = 0;
        for (Chain k : met) {
            without += leadRound(k) ? 0 : 1;
        }
        return without;
    }

    private boolean leadRound(Chain k) {
        for (int night = now + 1; night < 40; night++) {
            for (House h : houses) {
                h.lift(k, night);
            }
        }
        boolean begun = k.first <= now;
        int skip = begun ? now - k.first : 0;
        List<Integer> left = new ArrayList<>(k.way.subList(skip, k.way.size()));
        List<Integer> round = otherWay(left, k.first + skip, k.size, begun);
        if (round == null && begun) {
            k.way.subList(skip + 1, k.way.size()).clear();
            return false;
        }
        if (round == null) {
            k.how = How.REFUSED;
            return false;
        }
        for (int i = 0; i < round.size(); i++) {
            k.way.set(skip + i, round.get(i));
            if (i > 0 || !begun) {
                houses.get(round.get(i)).lay(k, k.size, k.first + skip + i);
            }
        }
        return true;
    }

    int chain(int size, int night, int house) {
        if (size < 1 || size > 12 || noNight(night) || night < now || noHouse(house)) {
            return BAD;
        }
        if (chains.size() == 40) {
            return FULL;
        }
        Chain k = new Chain(size, night);
        k.way.add(house);
        chains.add(k);
        return chains.size() - 1;
    }

    int add(int chain, int house) {
        if (noChain(chain) || noHouse(house)) {
            return BAD;
        }
        Chain k = chains.get(chain);
        if (k.first + k.way.size() > 39) {
            return BAD;
        }
        if (k.how != How.ASKED) {
            return NOT;
        }
        if (k.way.size() == 7) {
            return FULL;
        }
        k.way.add(house);
        return k.way.size();
    }

    int give(int chain) {
        int refusal = refusalToGive(chain);
        return refusal != 0 ? refusal : giveWhole(chains.get(chain));
    }

    int other(int chain) {
        int refusal = refusalToGive(chain);
        if (refusal != 0) {
            return refusal;
        }
        List<Integer> round = otherWay(chains.get(chain));
        return round == null ? NONE : partings(round, chains.get(chain).way);
    }

    int offered(int chain, int i) {
        if (noChain(chain) || i < 0 || i >= chains.get(chain).way.size()) {
            return BAD;
        }
        int refusal = refusalToGive(chain);
        if (refusal != 0) {
            return refusal;
        }
        List<Integer> round = otherWay(chains.get(chain));
        return round == null ? NONE : round.get(i);
    }

    int take(int chain) {
        int changed = other(chain);
        if (changed >= 0) {
            Chain k = chains.get(chain);
            List<Integer> round = otherWay(k);
            k.way.clear();
            k.way.addAll(round);
            if (giveWhole(k) != NONE) {
                throw new IllegalStateException("the model's other way is not open");
            }
        }
        return changed;
    }

    int giveUp(int chain) {
        if (noChain(chain)) {
            return BAD;
        }
        Chain k = chains.get(chain);
        if (k.how != How.GIVEN || k.first <= now) {
            return NOT;
        }
        for (House h : houses) {
            for (int night = 0; night < 40; night++) {
                h.lift(k, night);
            }
        }
        k.how = How.REFUSED;
        int paid = 0;
        for (int notice = 0; notice <= k.first - now; notice++) {
            for (Line line : lines) {
                paid = line.notice() == notice ? line.hundredths() : paid;
            }
        }
        return paid;
    }

    int about(int chain, int what) {
        if (noChain(chain)) {
            return BAD;
        }
        Chain k = chains.get(chain);
        int n = k.way.size();
        if (what >= 10 && what < 10 + n) {
            return k.way.get(what - 10);
        }
        if (what >= 20 && what < 20 + n) {
            int i = what - 20;
            return houses.get(k.way.get(i)).with(k, k.first + i) > 0 || slept(k, i) ? 1 : 0;
        }
        return switch (what) {
            case 0 -> k.size;
            case 1 -> k.first;
            case 2 -> n;
            case 3 -> k.how.ordinal();
            case 4 -> miles(k);
            case 5 -> k.done;
            case 6 -> (int) k.arrived.stream().filter(night -> night < now).count();
            default -> BAD;
        };
    }

    int laid(int chain, int i, int d) {
        if (noChain(chain) || i < 0 || i >= chains.get(chain).way.size() || d < 0 || d > 2) {
            return BAD;
        }
        Chain k = chains.get(chain);
        return houses.get(k.way.get(i)).with(k, k.first + i, d);
    }

    int letter(int chain, int mark, int day) {
        if (noChain(chain) || mark < 0 || mark > 999 || day < 0 || day > 999 || day < mark) {
            return BAD;
        }
        if (chains.get(chain).how != How.ASKED) {
            return NOT;
        }
        if (lettersTold == 40) {
            return FULL;
        }
        lettersTold++;
        unopened.add(new Letter(chains.get(chain), mark, day));
        return lettersTold;
    }

    int open(int day) {
        if (day < 0 || day > 999) {
            return BAD;
        }
        List<Letter> came = new ArrayList<>(unopened);
        came.removeIf(letter -> letter.day() > day);
        unopened.removeAll(came);
        came.sort(Comparator.comparingInt(Letter::mark));
        int given = 0;
        for (Letter letter : came) {
            Chain k = letter.chain();
            if (k.how == How.ASKED) {
                if (k.first >= now && giveWhole(k) == NONE) {
                    given++;
                } else {
                    k.how = How.REFUSED;
                }
            }
        }
        return given;
    }

    int arrive(int chain) {
        if (noChain(chain)) {
            return BAD;
        }
        Chain k = chains.get(chain);
        boolean lies = false;
        for (House h : houses) {
            lies |= h.with(k, now) > 0;
        }
        if (!lies || k.arrived.contains(now)) {
            return NOT;
        }
        k.arrived.add(now);
        return 1;
    }

    int door(int house, int n, int hour) {
        if (noHouse(house) || n < 1 || n > 9 || hour < 0 || hour > 23) {
            return BAD;
        }
        House h = houses.get(house);
        if (h.shut[now]) {
            return NOT;
        }
        List<Chain> late = new ArrayList<>();
        for (Chain k : chains) {
            if (h.with(k, now) > 0 && !k.arrived.contains(now)) {
                late.add(0, k);
            }
        }
        int most = hour >= h.hour ? late.size() : 0;
        for (int lost = 0; lost <= most; lost++) {
            int room = h.with(null, now);
            for (Chain k : late.subList(0, lost)) {
                room += k.size;
            }
            if (room >= n) {
                for (Chain k : late.subList(0, lost)) {
                    h.lift(k, now);
                }
                h.lay(WALKER, n, now);
                h.walkers[now] += n;
                return lost;
            }
        }
        return NONE;
    }

    int pass() {
        if (now == 39) {
            return FULL;
        }
        int sleepers = 0;
        for (Chain k : chains) {
            sleepers += k.arrived.contains(now) ? 1 : 0;
        }
        for (House h : houses) {
            List<Chain> there = new ArrayList<>(chains);
            there.removeIf(k -> !k.arrived.contains(now) || h.with(k, now) == 0);
            for (int chore = 0; chore < h.chores && !there.isEmpty(); chore++) {
                // 27720 is divided by each size from 1 to 12; the sort keeps the order of numbers.
                there.sort(Comparator.comparingInt((Chain k) -> k.done * (27720 / k.size))
                        .thenComparingInt(chains::indexOf));
                there.get(0).done++;
            }
        }
        for (Chain k : chains) {
            if (k.how == How.GIVEN && k.first + k.way.size() - 1 == now) {
                k.how = How.GONE;
            }
        }
        now++;
        return sleepers;
    }

    int suppers(int house, int night) {
        if (noHouse(house) || noNight(night) || night < now) {
            return BAD;
        }
        House h = houses.get(house);
        int people = 0;
        for (Chain k : chains) {
            people += h.with(k, night);
        }
        int walkers = 0;
        for (int passed = 0; passed < now; passed++) {
            walkers += h.walkers[passed];
        }
        return people + (now == 0 ? 0 : walkers / now);
    }

    int list(int notice, int hundredths) {
        if (noNight(notice) || hundredths < 0 || hundredths > 100) {
            return BAD;
        }
        if (lines.size() == 20) {
            return FULL;
        }
        lines.add(new Line(notice, hundredths));
        return lines.size();
    }

    int count(int what) {
        return switch (what) {
            case 0 -> houses.size();
            case 1 -> stages.size();
            case 2 -> chains.size();
            case 3 -> now;
            case 4 -> unopened.size();
            case 5, 6, 7 -> (int) chains.stream().filter(k -> k.how.ordinal() == what - 4).count();
            case 8 -> lines.size();
            case 9 -> houses.stream().mapToInt(h -> java.util.Arrays.stream(h.walkers).sum()).sum();
            default -> BAD;
        };
    }

    long digest() {
        List<Integer> told = new ArrayList<>();
        for (int what = 0; what <= 9; what++) {
            told.add(count(what));
        }
        for (int k = 0; k < chains.size(); k++) {
            for (int what = 3; what <= 6; what++) {
                told.add(about(k, what));
            }
            told.addAll(chains.get(k).way);
        }
        for (int h = 0; h < houses.size(); h++) {
            for (int night = now; night <= 39; night++) {
                told.add(free(h, NONE, night));
            }
        }
        long h = 17;
        for (int n : told) {
            h = 31 * h + n;
        }
        return h;
    }

    private boolean noHouse(int h) {
        return h < 0 || h >= houses.size();
    }

    private boolean noChain(int k) {
        return k < 0 || k >= chains.size();
    }

    private boolean noNight(int night) {
        return night < 0 || night > 39;
    }

    private Stage stageOf(int a, int b) {
        for (Stage stage : stages) {
            if (stage.joins(a, b)) {
                return stage;
            }
        }
        return null;
    }

    private boolean slept(Chain k, int i) {
        return k.first + i < now && k.arrived.contains(k.first + i);
    }

    private int miles(Chain k) {
        int miles = 0;
        for (int i = 0; i + 1 < k.way.size(); i++) {
            int from = k.way.get(i);
            int to = k.way.get(i + 1);
            if (slept(k, i) && slept(k, i + 1) && from != to) {
                miles += stageOf(from, to).miles();
            }
        }
        return miles;
    }

    private int refusalToGive(int chain) {
        if (noChain(chain)) {
            return BAD;
        }
        return chains.get(chain).how != How.ASKED || chains.get(chain).first < now ? NOT : 0;
    }

    private int giveWhole(Chain k) {
        for (int i = 0; i < k.way.size(); i++) {
            if (i > 0 && !near(k.way.get(i - 1), k.way.get(i)) || !roomy(k.way.get(i), k.first + i, k.size)) {
                return i;
            }
        }
        for (int i = 0; i < k.way.size(); i++) {
            houses.get(k.way.get(i)).lay(k, k.size, k.first + i);
        }
        k.how = How.GIVEN;
        return NONE;
    }

    private boolean near(int a, int b) {
        return a == b || stageOf(a, b) != null;
    }

    private boolean roomy(int h, int night, int size) {
        return !houses.get(h).shut[night] && houses.get(h).with(null, night) >= size;
    }

    private static int partings(List<Integer> a, List<Integer> b) {
        int n = 0;
        for (int i = 0; i < a.size(); i++) {
            n += a.get(i).equals(b.get(i)) ? 0 : 1;
        }
        return n;
    }

    private List<Integer> otherWay(Chain k) {
        return otherWay(k.way, k.first, k.size, false);
    }

    /** All open ways are written out, the lesser houses first; the sort keeps that order. */
    private List<Integer> otherWay(List<Integer> own, int night, int size, boolean firstStays) {
        List<List<Integer>> all = new ArrayList<>();
        if (firstStays || roomy(own.get(0), night, size)) {
            List<Integer> begin = new ArrayList<>();
            begin.add(own.get(0));
            writeOut(begin, own, night, size, all);
        }
        all.sort(Comparator.comparingInt(way -> partings(way, own)));
        return all.isEmpty() ? null : all.get(0);
    }

    private void writeOut(List<Integer> begun, List<Integer> own, int night, int size, List<List<Integer>> all) {
        int i = begun.size();
        if (i == own.size()) {
            if (begun.get(i - 1).equals(own.get(i - 1))) {
                all.add(new ArrayList<>(begun));
            }
            return;
        }
        for (int h = 0; h < houses.size(); h++) {
            if (near(begun.get(i - 1), h) && roomy(h, night + i, size)) {
                begun.add(h);
                writeOut(begun, own, night, size, all);
                begun.remove(i);
            }
        }
    }
}
