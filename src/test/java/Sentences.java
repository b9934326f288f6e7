import java.io.IOException;
import java.lang.reflect.Method;
import java.lang.reflect.Modifier;
import java.nio.charset.StandardCharsets;
import java.nio.file.Files;
import java.nio.file.Path;
import java.util.Arrays;
import java.util.Comparator;
import java.util.Set;
import java.util.TreeSet;
import java.util.function.IntPredicate;

/**
 * What a test of the document's boundaries has: one method for each sentence, which names it first with of(..) and
 * asks on both sides of the boundary then. A sentence that does not stand in the document where it is said to stand
 * is told as a wrong answer, so that the tests can't drift away from the document.
 */
abstract class Sentences {
    static final int NONE = -1;
    static final int MIN = Integer.MIN_VALUE;
    static final int MAX = Integer.MAX_VALUE;

    private static final Path DOCUMENT = Path.of("../shared/DOC.md");
    private static final Set<String> SECTIONS = new TreeSet<>();
    private static final Set<String> NAMED = new TreeSet<>();
    private static Dues dues;
    private static String document;
    private static String sentence;
    private static int askedOfIt;

    /** Runs every method of a test that has no parameters, and ends with exit code 1 if an answer was not as due. */
    static void runAll(Class<? extends Sentences> test, String... sections) throws IOException,
            ReflectiveOperationException {
        dues = new Dues(test.getName());
        document = Files.exists(DOCUMENT) ? plain(Files.readString(DOCUMENT, StandardCharsets.UTF_8)) : null;
        Method[] methods = test.getDeclaredMethods();
        Arrays.sort(methods, Comparator.comparing(Method::getName));
        for (Method method : methods) {
            boolean isTest = Modifier.isStatic(method.getModifiers()) && method.getParameterCount() == 0
                    && method.getReturnType() == void.class && !method.isSynthetic();
            if (isTest) {
                runOne(method);
            }
        }
        sentence = "the whole test";
        for (String section : sections) {
            due("has sentences of " + section, SECTIONS.contains(section), true);
        }
        dues.end();
    }

    private static void runOne(Method method) throws ReflectiveOperationException {
        sentence = null;
        method.setAccessible(true);
        method.invoke(null);
        boolean bothSides = askedOfIt >= 2;
        dues.due(method.getName() + " names its sentence", sentence != null, true);
        dues.due(method.getName() + " asks on both sides", bothSides, true);
    }

    /**
     * Begins the dues of a sentence: a section is "Term 1" to "Term 5", "Promise 1" to "Promise 41", "What it is" or
     * "The constants".
     */
    static void of(String section, String words) {
        sentence = section + ", \"" + words + "\"";
        SECTIONS.add(section);
        due("has one test alone", NAMED.add(sentence), true);
        if (document != null) {
            due("stands in the document", textOf(section).contains(plain(words)), true);
        }
        askedOfIt = 0;
    }

    private static String textOf(String section) {
        if (section.equals("Term 5")) {
            return between("==== 5.", "The constants:");
        }
        if (section.equals("The constants")) {
            return between("The constants:", "## ");
        }
        if (section.startsWith("Term ")) {
            int number = Integer.parseInt(section.substring(5));
            return between(number == 1 ? "## Terms" : "==== " + number + ".", "==== " + (number + 1) + ".");
        }
        return between("## " + section + (section.startsWith("Promise") ? ":" : ""), "## ");
    }

    private static String between(String start, String end) {
        int from = document.indexOf(start);
        if (from < 0) {
            return "";
        }
        int to = document.indexOf(end, from + start.length());
        return document.substring(from, to < 0 ? document.length() : to);
    }

    private static String plain(String text) {
        return text.replaceAll("\\s+", " ");
    }

    static void due(String call, long got, long want) {
        askedOfIt++;
        dues.due(sentence + ": " + call, got, want);
    }

    static void due(String call, boolean got, boolean want) {
        due(call, got ? 1 : 0, want ? 1 : 0);
    }

    /** The last number that is taken and the first that is not, at both ends, and the ends of all numbers. */
    static void bounds(String what, int low, int high, IntPredicate taken) {
        due(what + " " + (low - 1), taken.test(low - 1), false);
        due(what + " " + low, taken.test(low), true);
        due(what + " " + high, taken.test(high), true);
        due(what + " " + (high + 1), taken.test(high + 1), false);
        due(what + " " + MIN, taken.test(MIN), false);
        due(what + " " + MAX, taken.test(MAX), false);
    }

    /** Bounds of a number of which every one between is asked, too. */
    static void allBounds(String what, int low, int high, IntPredicate taken) {
        bounds(what, low, high, taken);
        for (int i = low + 1; i < high; i++) {
            due(what + " " + i, taken.test(i), true);
        }
    }

    // ---- houses to ask

    /** One kind with two pieces of sort 0 and one of sort 2, three toys, two families. */
    static ToyHouse house() {
        ToyHouse x = new ToyHouse();
        x.kind(3, 500, 2, 1, 30);
        x.pieces(0, 0, 2, 10);
        x.pieces(0, 2, 1, 25);
        x.toy(0, 5);
        x.toy(0, 6);
        x.toy(0, 7);
        x.family(4, 2, 0);
        x.family(1, 6, 3);
        return x;
    }

    /** Kinds without pieces, that bear 100 each and are made by maker 0; toys of kind 0; families of village 0. */
    static ToyHouse house(int kinds, int toys, int families) {
        ToyHouse x = new ToyHouse();
        for (int k = 0; k < kinds; k++) {
            x.kind(0, 100, 0, 0, 100);
        }
        for (int t = 0; t < toys; t++) {
            x.toy(0, t);
        }
        for (int f = 0; f < families; f++) {
            x.family(f, f, 0);
        }
        return x;
    }

    static void rules(ToyHouse x, String text) {
        dues.due(sentence + ": the text " + text + " is right", Dues.rules(x, text) > 0, true);
    }

    static int back(ToyHouse x, int t, int... pieces) {
        return Dues.back(x, t, pieces);
    }

    static int lendAndBack(ToyHouse x, int t, int f, int... pieces) {
        x.lend(t, f);
        return Dues.back(x, t, pieces);
    }

    /** A toy is lent and comes back dirty; the rules are others then. */
    static void makeDirty(ToyHouse x, int t, int f, int... pieces) {
        rules(x, "w(1=1)");
        lendAndBack(x, t, f, pieces);
        rules(x, "o(1=2)");
    }
}
