import java.io.IOException;
import java.util.ArrayList;
import java.util.List;

/**
 * That a refused call changes nothing: a house that was asked it and one that was not, made by the same calls, answer
 * alike from there on. The story they tell shows what is held inside, too: the tape's bytes, the rules, the days of
 * telling, the minutes.
 */
public final class RefusedCallsTest extends Sentences {
    private static final int NOBODY = -1000000;
    private static final String ON_TAPE = "d7(1=1);f30+l(1=1);p4(1=1);o(y=1);w(1=1)";

    private interface Call {
        long ask(ToyHouse x);
    }

    private interface Maker {
        ToyHouse make();
    }

    public static void main(String[] args) throws IOException, ReflectiveOperationException {
        runAll(RefusedCallsTest.class, "Term 5", "Promise 10", "Promise 13", "Promise 40");
    }

    // ---- two houses, and what they tell

    /** Toy 0 lacks a piece, 1 is lent, 2 lost, 3 culled, 4 to be washed, 5 of kind 1; the tape has a text. */
    private static ToyHouse busy() {
        ToyHouse x = new ToyHouse();
        x.kind(3, 500, 2, 1, 90);
        x.pieces(0, 0, 2, 10);
        x.pieces(0, 2, 1, 25);
        x.kind(5, 300, 7, 2, 90);
        x.kind(0, 200, 0, 3, 90);
        for (int t = 0; t < 6; t++) {
            x.toy(t == 5 ? 1 : 0, 10 + t);
        }
        x.family(4, 2, 0);
        x.family(1, 6, 3);
        x.bag(70);
        x.minutes(0, 25);
        Dues.rules(x, "d9(1=1);f11(1=1);p3(1=1);w(t=4);n50+e(1=1)");
        lendAndBack(x, 0, 0, 1, 0, 1);
        x.lend(1, 0);
        x.lend(2, 1);
        x.lost(2);
        x.cull(3);
        lendAndBack(x, 4, 1, 2, 0, 1);
        x.now(40);
        x.waits(0, 0);
        x.waits(1, 1);
        x.recall(1, 11, 12);
        x.told(0, 1);
        x.gift(0, 1, 1);
        x.telling(3);
        Dues.feedBytes(x, Dues.bytesOf(ON_TAPE));
        return x;
    }

    /** The same, and as many kinds, toys, families, recalls, gifts and bytes of the tape as can be. */
    private static ToyHouse full() {
        ToyHouse x = busy();
        for (int i = 0; i < 20; i++) {
            x.gift(5, 2, 699);
            if (i < 10) {
                x.toy(2, i);
                x.recall(4, i, i);
                x.feed(i, i, i, i, i);
            }
            if (i < 8) {
                x.family(i, i, 4);
            }
            if (i < 5) {
                x.kind(i, 100 + i, i, i, 90);
            }
        }
        return x;
    }

    private static String story(ToyHouse x) {
        StringBuilder told = new StringBuilder();
        for (int what = 0; what <= 29; what++) {
            told.append(x.count(what)).append(' ');
        }
        int[] whats = {0, 1, 2, 3, 4, 5, 6, 7, 8, 10, 12};
        for (int t = 0; t < 7; t++) {
            for (int what : whats) {
                told.append(x.toyIs(t, what)).append(' ');
            }
            told.append(x.where(t, 40, 42)).append(' ').append(x.why(t, 5)).append(' ').append(x.rota(1, t)).append(' ');
        }
        for (int k = 0; k < 3; k++) {
            told.append(x.next(k, 0)).append(' ').append(x.next(k, 1)).append(' ').append(x.whole(k, 2)).append(' ');
            told.append(x.buying(900, 3, k)).append(' ');
        }
        for (int i = 0; i < 4; i++) {
            told.append(x.forgiving(i)).append(' ').append(x.recalled(0, i)).append(' ').append(x.owes(i)).append(' ');
        }
        told.append(x.peak(0)).append(' ').append(x.peak(1)).append(' ').append(x.van(0, 6, 0)).append(' ');
        told.append(x.mending(6000, 1)).append(' ').append(x.mending(6000, 2)).append(' ').append(x.unwanted(1)).append(' ');
        goOn(x, told);
        return told.toString();
    }

    /** Acts that show the old rules and the telling, then those that show what the tape holds. */
    private static void goOn(ToyHouse x, StringBuilder told) {
        told.append(x.not(0, 0)).append(' ').append(x.not(0, 1)).append(' ').append(x.lend(0, 0)).append(' ');
        told.append(x.where(0, 40, 42)).append(' ').append(x.where(0, 40, 43)).append(' ');
        told.append(x.lend(5, 1)).append(' ').append(x.count(10)).append(' ').append(x.count(11)).append(' ');
        told.append(x.now(39)).append(' ').append(x.now(50)).append(' ');
        told.append(x.rules(ON_TAPE.length())).append(' ').append(x.count(4)).append(' ').append(x.count(5)).append(' ');
        told.append(back(x, 0, 1, 0, 0)).append(' ').append(back(x, 5)).append(' ').append(x.toyIs(0, 5)).append(' ');
        told.append(x.wash(5)).append(' ').append(x.lend(5, 0)).append(' ').append(x.toyIs(5, 4)).append(' ');
        told.append(x.owes(0)).append(' ').append(x.owes(1)).append(' ').append(x.forgiving(0)).append(' ');
        told.append(x.forgiving(2)).append(' ').append(x.mend(0)).append(' ').append(x.mending(6000, 1)).append(' ');
        told.append(x.pieces(2, 0, 1, 1)).append(' ').append(x.toy(2, 0)).append(' ').append(x.count(8));
    }

    // ---- asked of both

    private static void changesNothing(String name, Maker maker, long refusal, Call call) {
        ToyHouse x = maker.make();
        due(name, call.ask(x), refusal);
        due(name + " changes nothing", story(x).equals(story(maker.make())), true);
    }

    private static void inBoth(String name, long refusal, Call call) {
        changesNothing(name + " in a busy house", RefusedCallsTest::busy, refusal, call);
        changesNothing(name + " in a full house", RefusedCallsTest::full, refusal, call);
    }

    private static long asNumber(boolean answer) {
        return answer ? 1 : 0;
    }

    static void storiesTell() {
        of("Term 5", "All memory is the house's own.");
        due("a story is told alike", story(busy()).equals(story(busy())), true);
        due("the full house's, too", story(full()).equals(story(full())), true);
        List<Call> changes = new ArrayList<>();
        changes.add(x -> asNumber(x.now(41)));
        changes.add(x -> asNumber(x.bag(71)));
        changes.add(x -> asNumber(x.telling(4)));
        changes.add(x -> asNumber(x.minutes(0, 26)));
        changes.add(x -> asNumber(x.wash(4)));
        changes.add(x -> asNumber(x.waits(1, 0)));
        changes.add(x -> asNumber(x.leaves(0, 0)));
        changes.add(x -> asNumber(x.told(0, 0)));
        changes.add(x -> asNumber(x.cull(0)));
        changes.add(x -> x.mend(0) > 0 ? 1 : 0);
        changes.add(x -> x.pays(0, 1) >= 0 ? 1 : 0);
        changes.add(x -> x.lost(1) > 0 ? 1 : 0);
        changes.add(x -> x.lend(5, 1) > 0 ? 1 : 0);
        changes.add(x -> x.rules(7));
        for (int i = 0; i < changes.size(); i++) {
            ToyHouse x = busy();
            due("change " + i, changes.get(i).ask(x), 1);
            due("change " + i + " is seen in the story", story(x).equals(story(busy())), false);
        }
    }

    static void refusedToldOnes() {
        of("Term 5", "A call that is refused (NONE, false) changes nothing");
        inBoth("now(39)", 0, x -> asNumber(x.now(39)));
        inBoth("now(700)", 0, x -> asNumber(x.now(700)));
        inBoth("kind(16, ..)", NONE, x -> x.kind(16, 1, 1, 1, 1));
        inBoth("kind(.., 1001)", NONE, x -> x.kind(1, 1, 1, 1, 1001));
        inBoth("pieces(0, ..) with a toy", 0, x -> asNumber(x.pieces(0, 0, 6, 400)));
        inBoth("pieces(2, 6, ..)", 0, x -> asNumber(x.pieces(2, 6, 1, 1)));
        inBoth("pieces(2, 0, 7, 1)", 0, x -> asNumber(x.pieces(2, 0, 7, 1)));
        inBoth("pieces(2, 0, 1, 401)", 0, x -> asNumber(x.pieces(2, 0, 1, 401)));
        inBoth("toy(0, 100)", NONE, x -> x.toy(0, 100));
        inBoth("toy(8, 0)", NONE, x -> x.toy(8, 0));
        inBoth("family(16, 0, 0)", NONE, x -> x.family(16, 0, 0));
        inBoth("bag(2001)", 0, x -> asNumber(x.bag(2001)));
        inBoth("bag(-1)", 0, x -> asNumber(x.bag(-1)));
        inBoth("telling(31)", 0, x -> asNumber(x.telling(31)));
        inBoth("telling(-1)", 0, x -> asNumber(x.telling(-1)));
        inBoth("minutes(0, 601)", 0, x -> asNumber(x.minutes(0, 601)));
        inBoth("minutes(0, -1)", 0, x -> asNumber(x.minutes(0, -1)));
        inBoth("gift(0, 4, 0)", 0, x -> asNumber(x.gift(0, 4, 0)));
        inBoth("gift(0, 0, 5)", 0, x -> asNumber(x.gift(0, 0, 5)));
        inBoth("gift(0, 1, 10)", 0, x -> asNumber(x.gift(0, 1, 10)));
        inBoth("recall(1, 5, 4)", NONE, x -> x.recall(1, 5, 4));
        inBoth("recall(6, 0, 99)", NONE, x -> x.recall(6, 0, 99));
        inBoth("told(0, 1) again", 0, x -> asNumber(x.told(0, 1)));
        inBoth("told(10, 0)", 0, x -> asNumber(x.told(10, 0)));
        inBoth("pays(0, 12)", NONE, x -> x.pays(0, x.owes(0) + 1));
        inBoth("pays(0, -1)", NONE, x -> x.pays(0, -1));
    }

    static void refusedActs() {
        of("Term 5", "A call that is refused (NONE, false) changes nothing but the tape");
        inBoth("lend a lent one", NONE, x -> x.lend(1, 1));
        inBoth("lend a lost one", NONE, x -> x.lend(2, 0));
        inBoth("lend a culled one", NONE, x -> x.lend(3, 0));
        inBoth("lend a dirty one", NONE, x -> x.lend(4, 0));
        inBoth("lend a barred one to who waits", NONE, x -> x.lend(0, 1));
        inBoth("lend to nobody", NONE, x -> x.lend(0, 10));
        inBoth("back of one in the house", NONE, x -> x.back(0));
        inBoth("back of a lost one", NONE, x -> x.back(2));
        inBoth("back of none", NONE, x -> x.back(16));
        inBoth("lost of one in the house", NONE, x -> x.lost(0));
        inBoth("lost of a lost one", NONE, x -> x.lost(2));
        inBoth("wash a clean one", 0, x -> asNumber(x.wash(0)));
        inBoth("waits again", 0, x -> asNumber(x.waits(0, 0)));
        inBoth("waits for no kind", 0, x -> asNumber(x.waits(0, 8)));
        inBoth("leaves without waiting", 0, x -> asNumber(x.leaves(1, 0)));
        inBoth("mend a whole one", NONE, x -> x.mend(5));
        inBoth("mend a lent one", NONE, x -> x.mend(1));
        inBoth("mend a lost one", NONE, x -> x.mend(2));
        inBoth("cull a lent one", 0, x -> asNumber(x.cull(1)));
        inBoth("cull a lost one", 0, x -> asNumber(x.cull(2)));
        inBoth("cull a culled one", 0, x -> asNumber(x.cull(3)));
        inBoth("rules(201)", NONE, x -> x.rules(201));
        inBoth("rules(0)", NONE, x -> x.rules(0));
    }

    static void refusedQuestions() {
        of("Term 5", "(NONE, false)");
        inBoth("not(16, 0)", NONE, x -> x.not(16, 0));
        inBoth("toyIs(0, 9)", NONE, x -> x.toyIs(0, 9));
        inBoth("weigh(0, -1, 0, 0)", NONE, x -> x.weigh(0, -1, 0, 0));
        inBoth("weigh, no way", -2, x -> x.weigh(0, 200000, 0, 0));
        inBoth("whole(0, 3)", NONE, x -> x.whole(0, 3));
        inBoth("next(0, 3)", NOBODY, x -> x.next(0, 3));
        inBoth("buying(60001, 1, 8)", NONE, x -> x.buying(60001, 1, 8));
        inBoth("van(5, 1, 0)", NONE, x -> x.van(5, 1, 0));
        inBoth("mending(6001, 0)", NONE, x -> x.mending(6001, 0));
        inBoth("rota(10, 4)", NONE, x -> x.rota(10, 4));
        inBoth("recalled(0, 4)", NONE, x -> x.recalled(0, 4));
        inBoth("owes(10)", NONE, x -> x.owes(10));
        inBoth("forgiving(4)", NONE, x -> x.forgiving(4));
        inBoth("peak(2)", NONE, x -> x.peak(2));
        inBoth("unwanted(701)", NONE, x -> x.unwanted(701));
        inBoth("why(0, 701)", NONE, x -> x.why(0, 701));
        inBoth("where(0, 41, 41)", NONE, x -> x.where(0, 41, 41));
        inBoth("count(30)", NONE, x -> x.count(30));
    }

    static void refusedWhenFull() {
        of("Term 5", "A call that is refused");
        changesNothing("a ninth kind", RefusedCallsTest::full, NONE, x -> x.kind(0, 1, 0, 0, 1));
        changesNothing("a 17th toy", RefusedCallsTest::full, NONE, x -> x.toy(0, 0));
        changesNothing("an eleventh family", RefusedCallsTest::full, NONE, x -> x.family(0, 0, 0));
        changesNothing("an eleventh recall", RefusedCallsTest::full, NONE, x -> x.recall(1, 0, 99));
        changesNothing("a 21st gift", RefusedCallsTest::full, 0, x -> asNumber(x.gift(0, 1, 0)));
        changesNothing("a twelfth feed", RefusedCallsTest::full, NONE, x -> x.feed(1, 2, 3, 4, 5));
        due("kinds", full().count(1), 8);
        due("toys", full().count(2), 16);
        due("families", full().count(3), 10);
        due("bytes of the tape", full().count(5), 220);
        due("recalls", full().count(6), 10);
        due("gifts", full().count(7), 20);
    }

    // ---- where the tape is told to change, and all else not

    /** The same house but for the tape, which is empty; and then so is that of the house that was asked. */
    private static void changesTheTapeAlone(String name, long answer, Call call) {
        ToyHouse x = busy();
        due(name, call.ask(x), answer);
        due(name + " leaves the tape empty", x.count(5), 0);
        Dues.feedBytes(x, Dues.bytesOf(ON_TAPE));
        due(name + " changes nothing else", story(x).equals(story(busy())), true);
    }

    static void faultOfRules() {
        of("Promise 10", "(the TEXT before stays)");
        for (int n = 1; n < ON_TAPE.length(); n++) {
            int place = n;
            boolean right = ON_TAPE.charAt(n) == ';';
            if (!right) {
                changesTheTapeAlone("rules(" + n + ")", -1000 - n, x -> x.rules(place));
            }
        }
        due("a right text is another", story(afterRules(7)).equals(story(busy())), false);
    }

    private static ToyHouse afterRules(int n) {
        ToyHouse x = busy();
        x.rules(n);
        Dues.feedBytes(x, Dues.bytesOf(ON_TAPE));
        return x;
    }

    static void cannotBe() {
        of("Promise 13", "-2: the tape says what can't be (nothing else happens)");
        changesTheTapeAlone("back with letters for numbers", -2, x -> x.back(1));
        ToyHouse x = busy();
        due("the tape is there before", x.count(5), 40);
        due("what can't be", x.back(1), -2);
        due("the tape is empty, so it can't be told again", x.back(1), NONE);
        due("what can be", back(x, 1, 2, 0, 1), 11);
    }

    static void checkStays() {
        of("Promise 40", "-2: no such TOY, it has not so many (the tape stays)");
        inBoth("check of no toy", -2, x -> x.check(16, 0));
        inBoth("check of 28", -2, x -> x.check(0, 28));
        inBoth("check of -1", -2, x -> x.check(0, -1));
        changesTheTapeAlone("check, not right", 0, x -> x.check(0, 5));
        changesTheTapeAlone("check of none", 0, x -> x.check(0, 0));
    }
}
