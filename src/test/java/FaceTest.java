import java.io.IOException;
import java.lang.reflect.Member;
import java.lang.reflect.Method;
import java.lang.reflect.Modifier;
import java.nio.file.Files;
import java.nio.file.Path;
import java.util.ArrayList;
import java.util.Arrays;
import java.util.List;
import java.util.Random;
import java.util.TreeSet;
import java.util.regex.Matcher;
import java.util.regex.Pattern;

/** The public face, wild arguments in any state, and words that LANGUAGE.md rules out. */
public final class FaceTest {
    private static final String[] FACE = {"house 4", "stage 3", "chores 2", "free 3", "isShut 2", "shut 3", "chain 3",
        "add 2", "give 1", "other 1", "offered 2", "take 1", "giveUp 1", "about 2", "laid 3", "letter 3", "open 1",
        "arrive 1", "door 3", "pass 0", "suppers 2", "list 2", "count 1", "digest 0"};
    private static final Check check = new Check();

    public static void main(String[] args) throws ReflectiveOperationException, IOException {
        face();
        wildArguments();
        source(Files.readString(Path.of("src/main/java/WalkHouses.java")));
        check.end();
    }

    private static void face() {
        check.holds("public and final", Modifier.isPublic(WalkHouses.class.getModifiers())
            && Modifier.isFinal(WalkHouses.class.getModifiers()));
        TreeSet<String> open = new TreeSet<>();
        TreeSet<String> hidden = new TreeSet<>();
        for (Method method : WalkHouses.class.getDeclaredMethods()) {
            if (!method.isSynthetic()) {
                boolean isPublic = Modifier.isPublic(method.getModifiers());
                (isPublic ? open : hidden).add(method.getName() + (isPublic ? " " + method.getParameterCount() : ""));
                check.holds(method.getName() + " is public or private", isPublic || isPrivate(method));
            }
        }
        check.holds("the methods of the face: " + open, open.equals(new TreeSet<>(Arrays.asList(FACE))));
        for (String name : FACE) {
            check.holds("no private " + name, !hidden.contains(name.split(" ")[0]));
        }
        List<String> constants = new ArrayList<>();
        for (var field : WalkHouses.class.getDeclaredFields()) {
            if (Modifier.isPublic(field.getModifiers())) {
                constants.add(field.getName());
            } else {
                check.holds(field.getName() + " is private", isPrivate(field));
            }
        }
        check.holds("the constants " + constants, constants.equals(List.of("NONE", "BAD", "NOT", "FULL")));
        check.due("NONE", WalkHouses.NONE, -1);
        check.due("BAD", WalkHouses.BAD, -2);
        check.due("NOT", WalkHouses.NOT, -3);
        check.due("FULL", WalkHouses.FULL, -4);
        check.due("constructors", WalkHouses.class.getDeclaredConstructors().length, 1);
    }

    private static boolean isPrivate(Member member) {
        return Modifier.isPrivate(member.getModifiers());
    }

    /** Every call with arguments from both ends of int, among calls with small ones. */
    private static void wildArguments() throws ReflectiveOperationException {
        int[] wild = {Integer.MIN_VALUE, Integer.MIN_VALUE + 1, -41, -1, 0, 1, 2, 3, 9, 12, 39, 40, 999, 1000,
            Integer.MAX_VALUE - 1, Integer.MAX_VALUE};
        List<Method> calls = new ArrayList<>();
        for (Method method : WalkHouses.class.getDeclaredMethods()) {
            if (Modifier.isPublic(method.getModifiers())) {
                calls.add(method);
            }
        }
        calls.sort((a, b) -> a.getName().compareTo(b.getName()));
        for (int run = 0; run < 300; run++) {
            Random random = new Random(run);
            WalkHouses x = new WalkHouses();
            for (int n = 0; n < 512; n++) {
                Method method = calls.get(random.nextInt(calls.size()));
                Object[] numbers = new Object[method.getParameterCount()];
                for (int i = 0; i < numbers.length; i++) {
                    boolean tame = random.nextInt(5) > 0;
                    numbers[i] = tame ? random.nextInt(4) : wild[random.nextInt(wild.length)];
                }
                // What the call throws ends this test.
                Object answer = method.invoke(x, numbers);
                boolean fits = answer instanceof Long || (Integer) answer >= WalkHouses.FULL;
                check.holds("run " + run + " " + method.getName(), fits);
            }
        }
    }

    private static void source(String text) {
        String code = text.replaceAll("(?s)/\\*.*?\\*/", "").replaceAll("//[^\n]*", "");
        String[] ruledOut = {"\\bthrow\\b", "\\btry\\b", "\\bcatch\\b", "\\bsynchronized\\b", "\\bassert\\b", "\\bpackage\\b",
            "->", "::", "\\w+Exact\\b", "\\bprotected\\b", "\\bhashCode\\b", "\\btoString\\b", "\\bstatic \\{"};
        for (String word : ruledOut) {
            check.holds("no " + word, !Pattern.compile(word).matcher(code).find());
        }
        // Each object and row is made in a field's initialiser or in a constructor's loop.
        Matcher made = Pattern.compile("(?m)^(.*)\\bnew (\\w+)").matcher(code);
        while (made.find()) {
            boolean inField = made.group(1).contains("final ");
            boolean inConstructor = made.group(1).matches("\\s*(chains|houses)\\[\\w\\] = ");
            check.holds("new " + made.group(2) + " is made once", inField || inConstructor);
        }
    }
}
