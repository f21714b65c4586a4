import java.util.ArrayList;
import java.util.List;
import java.util.function.Consumer;

/**
 * Tells one story to two objects, makes a call on one of them, and then asks and does the same with
 * both: a call that changes nothing leaves them twins. No object is called more than 512 times, so
 * every question is put to a new pair.
 */
final class Twins {
    /** Asks or does something; what was answered goes into the list. */
    private interface Aftermath {
        void put(WalkHouses x, List<Long> answers);
    }

    private static final int CHAINS_AT_ONCE = 7, NIGHTS = 40;
    private final Check check;
    private final List<Aftermath> aftermaths = new ArrayList<>();

    Twins(Check check) {
        this.check = check;
        for (int h = 0; h < 12; h++) {
            int house = h;
            aftermaths.add((x, answers) -> lookAtHouse(x, house, answers));
        }
        for (int k = 0; k < 40; k += CHAINS_AT_ONCE) {
            int from = k;
            aftermaths.add((x, answers) -> lookAtChains(x, from, answers));
            aftermaths.add((x, answers) -> takeChains(x, from, answers));
        }
        aftermaths.add(Twins::lookAtBooks);
        aftermaths.add(Twins::tellMore);
        aftermaths.add(Twins::giveUpAll);
        aftermaths.add(Twins::openByDays);
        aftermaths.add(Twins::liveOn);
        aftermaths.add(Twins::comeByHours);
        aftermaths.add(Twins::shutAll);
    }

    static WalkHouses after(Consumer<WalkHouses> story) {
        WalkHouses x = new WalkHouses();
        story.accept(x);
        return x;
    }

    /** The call answers what is due, and nothing that can be seen afterwards is changed by it. */
    void changesNothing(Consumer<WalkHouses> story, Call call, long due) {
        for (int n = 0; n < aftermaths.size(); n++) {
            WalkHouses called = after(story);
            WalkHouses left = after(story);
            check.due(call.toString(), call.on(called), due);
            List<Long> answersOfCalled = new ArrayList<>();
            List<Long> answersOfLeft = new ArrayList<>();
            aftermaths.get(n).put(called, answersOfCalled);
            aftermaths.get(n).put(left, answersOfLeft);
            check.holds(call + " changes nothing (aftermath " + n + ")", answersOfCalled.equals(answersOfLeft));
        }
    }

    private static void lookAtHouse(WalkHouses x, int house, List<Long> answers) {
        for (int night = 0; night < NIGHTS; night++) {
            for (int d = -1; d < 3; d++) {
                answers.add((long) x.free(house, d, night));
            }
            answers.add((long) x.isShut(house, night));
            answers.add((long) x.suppers(house, night));
        }
    }

    private static void lookAtChains(WalkHouses x, int from, List<Long> answers) {
        for (int k = from; k < from + CHAINS_AT_ONCE; k++) {
            for (int i = 0; i < 7; i++) {
                answers.add((long) x.about(k, i));
                answers.add((long) x.about(k, 10 + i));
                answers.add((long) x.about(k, 20 + i));
                for (int d = 0; d < 3; d++) {
                    answers.add((long) x.laid(k, i, d));
                }
            }
        }
    }

    private static void takeChains(WalkHouses x, int from, List<Long> answers) {
        for (int k = from; k < from + CHAINS_AT_ONCE; k++) {
            for (int i = 0; i < 7; i++) {
                answers.add((long) x.offered(k, i));
            }
            answers.add((long) x.other(k));
            answers.add((long) x.give(k));
            answers.add((long) x.take(k));
            answers.add(x.digest());
        }
    }

    private static void lookAtBooks(WalkHouses x, List<Long> answers) {
        answers.add(x.digest());
        for (int what = 0; what < 10; what++) {
            answers.add((long) x.count(what));
        }
        for (int h = 0; h < 12; h++) {
            answers.add((long) x.chores(h, 0));
        }
    }

    private static void tellMore(WalkHouses x, List<Long> answers) {
        for (int a = 0; a < 12; a++) {
            for (int b = 0; b < a; b++) {
                answers.add((long) x.stage(a, b, 1));
            }
        }
        answers.add((long) x.house(1, 1, 1, 1));
        answers.add((long) x.chain(1, 39, 0));
        answers.add((long) x.list(0, 0));
        for (int k = 0; k < 40; k++) {
            answers.add((long) x.letter(k, 0, 0));
            answers.add((long) x.add(k, 0));
        }
        answers.add(x.digest());
    }

    private static void giveUpAll(WalkHouses x, List<Long> answers) {
        for (int k = 0; k < 40; k++) {
            answers.add((long) x.giveUp(k));
            answers.add(x.digest());
        }
    }

    private static void openByDays(WalkHouses x, List<Long> answers) {
        for (int day = 0; day < 70; day++) {
            answers.add((long) x.open(day));
            answers.add(x.digest());
        }
        answers.add((long) x.open(999));
    }

    private static void liveOn(WalkHouses x, List<Long> answers) {
        for (int night = 0; night < 6; night++) {
            for (int k = 0; k < 14; k++) {
                answers.add((long) x.arrive(k));
            }
            for (int h = 0; h < 4; h++) {
                answers.add((long) x.door(h, 1 + night, 22));
            }
            answers.add((long) x.pass());
            answers.add(x.digest());
        }
    }

    private static void comeByHours(WalkHouses x, List<Long> answers) {
        for (int hour = 0; hour < 24; hour++) {
            for (int h = 0; h < 4; h++) {
                answers.add((long) x.door(h, 4, hour));
            }
        }
        answers.add(x.digest());
    }

    private static void shutAll(WalkHouses x, List<Long> answers) {
        for (int h = 0; h < 12; h++) {
            answers.add((long) x.shut(h, x.count(3) + 1, 39));
            answers.add(x.digest());
        }
    }
}
