import java.util.Arrays;

/** One call by its name and numbers, so that a table can tell many. */
record Call(String name, int... numbers) {
    long on(WalkHouses x) {
        int[] n = numbers;
        return switch (name) {
            case "house" -> x.house(n[0], n[1], n[2], n[3]);
            case "stage" -> x.stage(n[0], n[1], n[2]);
            case "chores" -> x.chores(n[0], n[1]);
            case "free" -> x.free(n[0], n[1], n[2]);
            case "isShut" -> x.isShut(n[0], n[1]);
            case "shut" -> x.shut(n[0], n[1], n[2]);
            case "chain" -> x.chain(n[0], n[1], n[2]);
            case "add" -> x.add(n[0], n[1]);
            case "give" -> x.give(n[0]);
            case "other" -> x.other(n[0]);
            case "offered" -> x.offered(n[0], n[1]);
            case "take" -> x.take(n[0]);
            case "giveUp" -> x.giveUp(n[0]);
            case "about" -> x.about(n[0], n[1]);
            case "laid" -> x.laid(n[0], n[1], n[2]);
            case "letter" -> x.letter(n[0], n[1], n[2]);
            case "open" -> x.open(n[0]);
            case "arrive" -> x.arrive(n[0]);
            case "door" -> x.door(n[0], n[1], n[2]);
            case "pass" -> x.pass();
            case "suppers" -> x.suppers(n[0], n[1]);
            case "list" -> x.list(n[0], n[1]);
            case "count" -> x.count(n[0]);
            case "digest" -> x.digest();
            default -> throw new IllegalArgumentException(name);
        };
    }

    /** The same call with another number in one place. */
    Call with(int place, int number) {
        int[] changed = numbers.clone();
        changed[place] = number;
        return new Call(name, changed);
    }

    @Override
    public String toString() {
        return name + Arrays.toString(numbers);
    }
}
