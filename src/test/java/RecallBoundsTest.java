import java.io.IOException;

/** The boundaries that Term 5 names: recalls, gifts, forgiving, the peak, the unwanted, where and check. */
public final class RecallBoundsTest extends Sentences {
    public static void main(String[] args) throws IOException, ReflectiveOperationException {
        runAll(RecallBoundsTest.class, "Term 5");
    }

    // ---- recalls

    static void batchesRecalled() {
        of("Term 5", "all TOYS of a MAKER's KINDS with batches from one to another");
        ToyHouse x = new ToyHouse();
        x.kind(0, 100, 0, 2, 9);
        x.kind(0, 100, 0, 3, 9);
        x.kind(0, 100, 0, 2, 9);
        int[] batches = {4, 5, 7, 8};
        for (int batch : batches) {
            x.toy(0, batch);
        }
        x.toy(1, 5);
        x.toy(2, 5);
        x.recall(2, 5, 7);
        due("from 5 to 7 of maker 2", x.recalled(0, 0), 2 + 4 + 32);
        due("below", x.toyIs(0, 6), 0);
        due("the first", x.toyIs(1, 6), 1);
        due("the last", x.toyIs(2, 6), 1);
        due("above", x.toyIs(3, 6), 0);
        due("of another maker", x.toyIs(4, 6), 0);
        due("of another kind of this maker", x.toyIs(5, 6), 1);
        x.recall(2, 8, 8);
        due("one batch alone", x.recalled(1, 0), 8);
        due("from one to one below", x.recall(2, 8, 7), NONE);
    }

    static void recalledFromNowOn() {
        of("Term 5", "from NOW on. (TOYS told later, too.)");
        ToyHouse x = house();
        due("before", x.toyIs(0, 6), 0);
        due("lent before", x.lend(0, 0), 21);
        x.recall(1, 5, 5);
        due("then", x.toyIs(0, 6), 1);
        x.toy(0, 5);
        x.toy(0, 6);
        due("told later", x.toyIs(3, 6), 1);
        due("told later, of another batch", x.toyIs(4, 6), 0);
        due("of the recall", x.recalled(0, 0), 1 + 8);
        due("not to be lent", x.lend(3, 0), NONE);
        x.now(699);
        due("for good", x.toyIs(3, 6), 1);
    }

    static void inTime() {
        of("Term 5", "how many were told by the DAY behind it");
        due("on the day", inTimeOn(10), 1);
        due("on the day behind", inTimeOn(11), 1);
        due("two days behind", inTimeOn(12), 0);
        due("much later", inTimeOn(699), 0);
        ToyHouse x = house();
        x.lend(0, 0);
        x.now(699);
        x.recall(1, 5, 5);
        due("nobody is told", x.recalled(0, 2), 0);
        x.told(0, 0);
        due("on the last day", x.recalled(0, 2), 1);
        x = house();
        x.lend(0, 0);
        x.recall(1, 5, 5);
        x.now(1);
        x.told(0, 0);
        due("recalled on day 0, told on day 1", x.recalled(0, 2), 1);
    }

    private static int inTimeOn(int day) {
        ToyHouse x = house();
        x.lend(0, 0);
        x.now(10);
        x.recall(1, 5, 5);
        x.now(day);
        x.told(0, 0);
        return x.recalled(0, 2);
    }

    static void hadAtTheRecall() {
        of("Term 5", "IN TIME: of FAMILIES that had such a TOY at the RECALL");
        ToyHouse x = house();
        x.lend(0, 0);
        x.lend(1, 1);
        x.recall(1, 5, 5);
        x.told(0, 1);
        due("told, but had another toy", x.recalled(0, 2), 0);
        due("who had it", x.recalled(0, 1), 1);
        x.told(0, 0);
        due("told, and had it", x.recalled(0, 2), 1);
        back(x, 0, 2, 0, 1);
        due("back since", x.recalled(0, 2), 1);
        due("who had it then", x.recalled(0, 1), 1);
        x.recall(1, 5, 5);
        due("back before", x.recalled(1, 1), 0);
        x.told(1, 0);
        due("back before, told", x.recalled(1, 2), 0);
    }

    static void open() {
        of("Term 5", "OPEN: who has such a TOY now and was not told of that RECALL");
        ToyHouse x = house();
        x.lend(0, 0);
        x.lend(1, 1);
        x.recall(1, 5, 6);
        x.recall(1, 6, 7);
        due("both", x.recalled(0, 3), 3);
        due("one", x.recalled(1, 3), 2);
        x.told(0, 1);
        due("told of it", x.recalled(0, 3), 1);
        due("not told of the other", x.recalled(1, 3), 2);
        x.now(50);
        x.told(1, 1);
        due("told late", x.recalled(1, 3), 0);
        back(x, 0, 2, 0, 1);
        due("back", x.recalled(0, 3), 0);
        x.lend(2, 0);
        due("not lent, as it is recalled", x.recalled(1, 3), 0);
        ToyHouse y = house();
        y.lend(0, 0);
        y.recall(1, 5, 5);
        due("has it", y.recalled(0, 3), 1);
        y.lost(0);
        due("lost", y.recalled(0, 3), 0);
    }

    static void recalls() {
        of("Term 5", "RECALLS 0 to 9");
        ToyHouse x = house();
        for (int r = 0; r <= 9; r++) {
            due("recall " + r, x.recall(5, r, r), r);
        }
        due("an eleventh", x.recall(1, 5, 5), NONE);
        due("not recalled by it", x.toyIs(0, 6), 0);
        allBounds("of recall", 0, 9, r -> x.recalled(r, 0) == 0);
        allBounds("told of recall", 0, 9, r -> x.told(r, 0));
        ToyHouse y = house();
        for (int r = 0; r < 9; r++) {
            y.recall(5, 0, 0);
        }
        due("a tenth", y.recall(1, 5, 5), 9);
        due("recalled by it", y.toyIs(0, 6), 1);
    }

    // ---- gifts

    static void onlyToAVillage() {
        of("Term 5", "0 only to a VILLAGE");
        for (int village = 0; village <= 4; village++) {
            ToyHouse x = house(1, 1, 0);
            for (int other = 0; other <= 4; other++) {
                x.family(0, 0, other);
            }
            x.gift(0, 0, village);
            for (int other = 0; other <= 4; other++) {
                due("only to " + village + ", asked for " + other, x.not(0, other), other == village ? 0 : 5);
            }
        }
    }

    static void notToAFamily() {
        of("Term 5", "1 not to a FAMILY");
        for (int family = 0; family <= 9; family += 9) {
            ToyHouse x = house(1, 1, 10);
            x.gift(0, 1, family);
            for (int other = 0; other <= 9; other++) {
                due("not to " + family + ", asked for " + other, x.not(0, other), other == family ? 5 : 0);
            }
        }
    }

    static void notBehindADay() {
        of("Term 5", "2 not behind a DAY");
        due("the day before", notOn(10, 9), 0);
        due("on the day", notOn(10, 10), 0);
        due("behind the day", notOn(10, 11), 5);
        due("day 0, on it", notOn(0, 0), 0);
        due("day 0, behind it", notOn(0, 1), 5);
        due("day 699", notOn(699, 699), 0);
        due("day 698, behind it", notOn(698, 699), 5);
    }

    private static int notOn(int term, int day) {
        ToyHouse x = house();
        x.gift(0, 2, term);
        x.now(day);
        return x.not(0, 0);
    }

    static void onlyToNeed() {
        of("Term 5", "3 only to who has NEED of so much or more");
        ToyHouse x = house(1, 3, 10);
        x.gift(0, 3, 5);
        x.gift(1, 3, 0);
        x.gift(2, 3, 9);
        due("need 4 of 5", x.not(0, 4), 5);
        due("need 5 of 5", x.not(0, 5), 0);
        due("need 6 of 5", x.not(0, 6), 0);
        due("need 0 of 0", x.not(1, 0), 0);
        due("need 8 of 9", x.not(2, 8), 5);
        due("need 9 of 9", x.not(2, 9), 0);
    }

    static void gifts20() {
        of("Term 5", "(Several for a TOY; 20 at most.)");
        ToyHouse x = house(1, 2, 10);
        for (int i = 0; i < 19; i++) {
            due("term " + i, x.gift(0, 2, 699), true);
        }
        due("the 20th", x.gift(0, 1, 3), true);
        due("the 20th bars", x.not(0, 3), 5);
        due("nobody else", x.not(0, 4), 0);
        due("a 21st", x.gift(0, 1, 4), false);
        due("a 21st, for another toy", x.gift(1, 1, 4), false);
        due("it does not bar", x.not(0, 4), 0);
        due("nor the other toy", x.not(1, 4), 0);
        due("gifts", x.count(7), 20);
        ToyHouse y = house(1, 16, 1);
        for (int i = 0; i < 20; i++) {
            due("for different toys, " + i, y.gift(i % 16, 1, 0), true);
        }
        due("a 21st for different toys", y.gift(15, 1, 0), false);
    }

    // ---- forgiving

    private static void forgivingIs(ToyHouse x, int... want) {
        for (int what = 0; what <= 3; what++) {
            due("forgiving " + what, x.forgiving(what), want[what]);
        }
    }

    static void behindForgiven() {
        of("Term 5", "behind one that came BACK with a FINE above 0 that was FORGIVEN: how many, how many of them LATE");
        ToyHouse x = house(1, 4, 2);
        rules(x, "d1(1=1);f1(t=0);f0(t=1);o(t<2)");
        lendAndBack(x, 0, 0);
        forgivingIs(x, 0, 0, 0, 0);
        x.lend(2, 0);
        x.now(1);
        back(x, 2);
        forgivingIs(x, 1, 0, 0, 0);
        lendAndBack(x, 2, 0);
        forgivingIs(x, 1, 0, 0, 0);
        lendAndBack(x, 1, 0);
        lendAndBack(x, 2, 0);
        forgivingIs(x, 1, 0, 0, 0);
        lendAndBack(x, 0, 0);
        lendAndBack(x, 2, 1);
        forgivingIs(x, 1, 0, 0, 0);
        x.lend(2, 0);
        x.now(3);
        back(x, 2);
        forgivingIs(x, 2, 1, 0, 0);
    }

    static void behindOthers() {
        of("Term 5", "likewise behind one whose FINE above 0 was not");
        ToyHouse x = house(1, 4, 2);
        rules(x, "d1(1=1);f1(t=0);f0(t=1)");
        lendAndBack(x, 1, 0);
        lendAndBack(x, 2, 0);
        forgivingIs(x, 0, 0, 0, 0);
        lendAndBack(x, 0, 0);
        forgivingIs(x, 0, 0, 0, 0);
        x.lend(2, 0);
        x.now(1);
        back(x, 2);
        forgivingIs(x, 0, 0, 1, 0);
        lendAndBack(x, 0, 0);
        x.lend(2, 0);
        x.now(3);
        back(x, 2);
        forgivingIs(x, 0, 0, 2, 1);
        lendAndBack(x, 0, 0);
        lendAndBack(x, 0, 0);
        forgivingIs(x, 0, 0, 3, 1);
    }

    static void firstOfAFamily() {
        of("Term 5", "of TOYS that came BACK first of a FAMILY behind one that came BACK");
        ToyHouse x = house(1, 4, 2);
        rules(x, "f1(t=0);o(1=1)");
        x.lend(1, 0);
        x.lend(2, 0);
        x.lend(3, 1);
        lendAndBack(x, 0, 0);
        back(x, 3);
        forgivingIs(x, 0, 0, 0, 0);
        x.lost(1);
        forgivingIs(x, 0, 0, 0, 0);
        back(x, 2);
        forgivingIs(x, 1, 0, 0, 0);
        lendAndBack(x, 3, 0);
        forgivingIs(x, 1, 0, 0, 0);
    }

    // ---- the peak

    /** A house in which one wait began on each of these days. */
    private static ToyHouse begunOn(int... days) {
        ToyHouse x = house(1, 0, 1);
        for (int day : days) {
            x.now(day);
            x.waits(0, 0);
            x.leaves(0, 0);
        }
        return x;
    }

    private static void peakIs(ToyHouse x, int week, int many) {
        due("the week", x.peak(0), week);
        due("how many", x.peak(1), many);
    }

    static void weeksOfPeak() {
        of("Term 5", "by weeks (DAY modulo 365, through 7: 0 to 52)");
        // a wait alone is seen by the lowest week from which three weeks reach it
        peakIs(begunOn(27), 1, 1);
        peakIs(begunOn(28), 2, 1);
        peakIs(begunOn(34), 2, 1);
        peakIs(begunOn(35), 3, 1);
        peakIs(begunOn(20), 0, 1);
        peakIs(begunOn(21), 1, 1);
        peakIs(begunOn(363), 49, 1);
        peakIs(begunOn(364), 50, 1);
        peakIs(begunOn(365), 0, 1);
        peakIs(begunOn(365 + 20), 0, 1);
        peakIs(begunOn(365 + 21), 1, 1);
        peakIs(begunOn(699), (699 - 365) / 7 - 2, 1);
        peakIs(begunOn(21, 386), 1, 2);
    }

    static void threeWeeks() {
        of("Term 5", "the first of three weeks (round: 52, then 0) in which most began together");
        peakIs(begunOn(70, 77, 84), 10, 3);
        peakIs(begunOn(70, 77, 91), 9, 2);
        peakIs(begunOn(350, 357, 363), 49, 3);
        peakIs(begunOn(350, 357, 364), 50, 3);
        peakIs(begunOn(357, 364, 365), 51, 3);
        peakIs(begunOn(357, 364, 371), 51, 3);
        peakIs(begunOn(357, 364, 372), 50, 2);
        peakIs(begunOn(364, 365, 372), 52, 3);
        peakIs(begunOn(364, 365, 378), 52, 3);
        peakIs(begunOn(364, 372, 379), 0, 2);
        peakIs(begunOn(365, 372, 379), 0, 3);
        peakIs(begunOn(0, 7, 364), 52, 3);
    }

    static void lowestPeak() {
        of("Term 5", "of like ones the lowest; how many");
        peakIs(new ToyHouse(), 0, 0);
        peakIs(begunOn(100, 200), 12, 1);
        peakIs(begunOn(100, 200, 201), 26, 2);
        peakIs(begunOn(100, 101, 200, 201), 12, 2);
        peakIs(begunOn(7), 0, 1);
        peakIs(begunOn(0), 0, 1);
    }

    static void waitsThatBegan() {
        of("Term 5", "THE PEAK: WAITS that began");
        ToyHouse x = house(1, 1, 1);
        due("none", x.peak(1), 0);
        x.waits(0, 0);
        due("one", x.peak(1), 1);
        x.waits(0, 0);
        due("one that did not begin", x.peak(1), 1);
        x.leaves(0, 0);
        due("one that ended", x.peak(1), 1);
        x.waits(0, 0);
        due("another", x.peak(1), 2);
        x.lend(0, 0);
        due("one that was lent to", x.peak(1), 2);
    }

    // ---- the unwanted

    static void daysUnwanted() {
        of("Term 5", "UNWANTED for d DAYS (1 to 700)");
        bounds("unwanted for", 1, 700, d -> house().unwanted(d) == 0);
        bounds("why for", 1, 700, d -> house().why(0, d) == 0);
        ToyHouse x = house();
        x.now(699);
        due("for 699", x.unwanted(699), 7);
        due("for 700", x.unwanted(700), 0);
    }

    static void daysAgoOrMore() {
        of("Term 5", "TOYS IN THE HOUSE that came there (at first, or BACK) d DAYS ago or more");
        ToyHouse x = house();
        x.now(4);
        x.toy(0, 8);
        x.now(9);
        due("for 9", x.unwanted(9), 7);
        due("for 10", x.unwanted(10), 0);
        due("for 5: one told later, too", x.unwanted(5), 15);
        due("for 6", x.unwanted(6), 7);
        x.lend(0, 0);
        due("a lent one", x.unwanted(1), 14);
        x.now(12);
        back(x, 0, 2, 0, 1);
        due("back today", x.unwanted(1), 14);
        x.now(13);
        due("back yesterday", x.unwanted(1), 15);
        due("back yesterday, for 2", x.unwanted(2), 14);
        x.cull(3);
        due("a culled one", x.unwanted(1), 7);
        x.lend(2, 0);
        x.lost(2);
        due("a lost one", x.unwanted(1), 3);
        due("why of a lost one", x.why(2, 1), 0);
    }

    static void nobodyWaits() {
        of("Term 5", "and for whose KIND nobody waits");
        ToyHouse x = house(2, 1, 1);
        x.toy(1, 0);
        x.now(1);
        due("both", x.unwanted(1), 3);
        x.waits(0, 0);
        due("one waits for kind 0", x.unwanted(1), 2);
        due("why of it", x.why(0, 1), 0);
        due("why of the other", x.why(1, 1), 8);
        x.leaves(0, 0);
        due("nobody waits", x.unwanted(1), 3);
    }

    private static boolean among(int reasons, int reason) {
        return (reasons >> reason & 1) == 1;
    }

    /** Why a toy is unwanted for which these reasons (as bits) are so; its family's child is 4 years old. */
    private static int why(int reasons, int noise, int age) {
        ToyHouse x = new ToyHouse();
        x.kind(age, 100, noise, 0, among(reasons, 4) ? 1 : 2);
        x.pieces(0, 0, 1, 1);
        x.toy(0, 0);
        x.family(4, 0, 0);
        rules(x, among(reasons, 2) ? "w(1=1)" : "w(1=2)");
        lendAndBack(x, 0, 0, among(reasons, 3) ? 0 : 1);
        if (among(reasons, 1)) {
            x.recall(0, 0, 0);
        }
        if (among(reasons, 7)) {
            x.gift(0, 1, 0);
        }
        x.now(1);
        return x.why(0, 1);
    }

    private static int why(int reasons) {
        return why(reasons, among(reasons, 5) ? 7 : 6, among(reasons, 6) ? 5 : 4);
    }

    /** Each set of the reasons 1 to 7, as bits: the lowest of them is told, 8 if there is none. */
    static void whyTheFirst() {
        of("Term 5", "WHY, the first that is so");
        for (int reasons = 0; reasons < 256; reasons += 2) {
            due("for reasons " + reasons, why(reasons), reasons == 0 ? 8 : Integer.numberOfTrailingZeros(reasons));
        }
    }

    static void whyRecalled() {
        of("Term 5", "1 RECALLED");
        due("all is so", why(0xFE), 1);
        due("all but that", why(0xFC), 2);
        due("that alone", why(1 << 1), 1);
    }

    static void whyWashed() {
        of("Term 5", "2 must be WASHED");
        due("and all behind it", why(0xFC), 2);
        due("all behind it alone", why(0xF8), 3);
        due("that alone", why(1 << 2), 2);
    }

    static void whyLacks() {
        of("Term 5", "3 lacks something");
        due("and all behind it", why(0xF8), 3);
        due("all behind it alone", why(0xF0), 4);
        due("that alone", why(1 << 3), 3);
    }

    static void whyWorn() {
        of("Term 5", "4 worn");
        due("and all behind it", why(0xF0), 4);
        due("wear is one below: all behind it", why(0xE0), 5);
        due("that alone", why(1 << 4), 4);
    }

    static void whyLoud() {
        of("Term 5", "5 NOISE 7 or more");
        due("6", why(0, 6, 15), 6);
        due("7", why(0, 7, 15), 5);
        due("8", why(0, 8, 15), 5);
        due("9", why(0, 9, 0), 5);
        due("6, and nothing else", why(0, 6, 0), 8);
    }

    private static ToyHouse fromAge(int age) {
        ToyHouse x = new ToyHouse();
        x.kind(age, 100, 0, 0, 9);
        x.toy(0, 0);
        x.now(1);
        return x;
    }

    static void whyTooOld() {
        of("Term 5", "6 its AGE above that of each youngest child (some FAMILY is there)");
        due("as old as the child, barred", why(1 << 7, 0, 4), 7);
        due("a year more, barred", why(1 << 7, 0, 5), 6);
        ToyHouse x = fromAge(5);
        due("no family is there", x.why(0, 1), 8);
        x.family(4, 0, 0);
        due("one of 4", x.why(0, 1), 6);
        x.family(0, 0, 0);
        due("and one of 0", x.why(0, 1), 6);
        x.family(5, 0, 0);
        due("and one of 5", x.why(0, 1), 8);
        x = fromAge(5);
        x.family(5, 0, 0);
        x.family(4, 0, 0);
        due("the first of 5", x.why(0, 1), 8);
    }

    static void whyBarred() {
        of("Term 5", "7 its terms bar each FAMILY (likewise)");
        ToyHouse x = fromAge(0);
        x.gift(0, 2, 0);
        due("no family is there", x.why(0, 1), 8);
        x.family(0, 0, 0);
        due("the only one is barred", x.why(0, 1), 7);
        x = fromAge(0);
        x.family(0, 0, 0);
        x.family(0, 0, 1);
        due("no terms", x.why(0, 1), 8);
        x.gift(0, 1, 0);
        due("one of two is barred", x.why(0, 1), 8);
        x.gift(0, 0, 0);
        due("both are barred, by two terms", x.why(0, 1), 7);
        x.family(0, 0, 0);
        due("another family is not", x.why(0, 1), 8);
    }

    static void whyNobody() {
        of("Term 5", "8 nobody asks for it");
        ToyHouse x = fromAge(0);
        due("no family is there", x.why(0, 1), 8);
        x.family(0, 0, 0);
        due("nothing else is so", x.why(0, 1), 8);
        x.waits(0, 0);
        due("somebody asks", x.why(0, 1), 0);
        rules(x, "a(1=2);u(1=1)");
        x.leaves(0, 0);
        due("rules are no reason", x.why(0, 1), 8);
    }

    static void culled() {
        of("Term 5", "CULLED: a TOY IN THE HOUSE goes for good");
        ToyHouse x = house();
        x.lend(0, 0);
        due("a lent one", x.cull(0), false);
        back(x, 0, 2, 0, 1);
        due("in the house", x.cull(0), true);
        due("once", x.cull(0), false);
        due("not to be lent", x.not(0, 0), 1);
        due("lend it", x.lend(0, 0), NONE);
        x.lend(1, 0);
        x.lost(1);
        due("a lost one", x.cull(1), false);
    }

    // ---- where

    static void tellingDays() {
        of("Term 5", "as many DAYS later as TELLING takes (0 to 30, told; 0 at first; as it was at the act)");
        bounds("telling", 0, 30, days -> new ToyHouse().telling(days));
        ToyHouse x = house();
        x.now(10);
        x.lend(0, 0);
        due("0 at first: on the day", x.where(0, 10, 10), 1);
        x.telling(30);
        x.lend(1, 0);
        x.telling(31);
        x.telling(0);
        due("30: the day before", x.where(1, 10, 39), 0);
        due("30: on the day", x.where(1, 10, 40), 1);
        x.lend(2, 0);
        due("0 again", x.where(2, 10, 10), 1);
    }

    static void knownBy() {
        of("Term 5", "LENT and BACK (LOST) are known from the DAY on which they were TOLD");
        ToyHouse x = house();
        x.telling(5);
        x.now(10);
        x.lend(0, 0);
        x.lend(1, 1);
        x.now(20);
        back(x, 0, 2, 0, 1);
        x.lost(1);
        due("lent, not known", x.where(0, 10, 14), 0);
        due("lent, known", x.where(0, 10, 15), 1);
        due("back, not known", x.where(0, 20, 24), 1);
        due("back, known", x.where(0, 20, 25), 0);
        due("lost, not known", x.where(1, 20, 24), 2);
        due("lost, known", x.where(1, 20, 25), 20);
        x.now(669);
        x.telling(30);
        x.lend(2, 0);
        due("known on the last day", x.where(2, 669, 699), 1);
        due("not known on the day before", x.where(2, 669, 698), 0);
        back(x, 2, 2, 0, 1);
        x.now(670);
        x.lend(0, 0);
        due("never known", x.where(0, 670, 699), 0);
    }

    static void ofThatDayAndBefore() {
        of("Term 5", "By acts of that DAY and before that were known by then, the latest.");
        ToyHouse x = house();
        x.now(10);
        x.lend(0, 0);
        due("the day before", x.where(0, 9, 699), 0);
        due("on the day", x.where(0, 10, 699), 1);
        back(x, 0, 2, 0, 1);
        due("the latest of the day", x.where(0, 10, 699), 0);
        x.lend(0, 1);
        due("the latest of three", x.where(0, 10, 699), 2);
        x.telling(9);
        x.now(11);
        back(x, 0, 2, 0, 1);
        x.telling(1);
        x.now(12);
        x.lend(0, 0);
        due("on day 12 as known on 12", x.where(0, 12, 12), 2);
        due("on day 12 as known on 13", x.where(0, 12, 13), 1);
        due("on day 11 as known on 19", x.where(0, 11, 19), 2);
        due("on day 11 as known on 20", x.where(0, 11, 20), 0);
        due("on day 12 as known on 20: the latest act", x.where(0, 12, 20), 1);
        due("another toy", x.where(1, 12, 699), 0);
    }

    // ---- check

    static void checked() {
        of("Term 5", "all SORTS of which its KIND has some, by numbers: right, or the first number that is not so");
        ToyHouse x = house();
        due("all", Dues.check(x, 0, 2, 0, 2, 2, 1), NONE);
        due("one lacks", Dues.check(x, 0, 1, 0, 2), 2);
        due("one more", Dues.check(x, 0, 3, 0, 2, 2, 1, 3, 0), 4);
        due("a sort of which it has none", Dues.check(x, 0, 3, 0, 2, 1, 0, 2, 1), 2);
        due("not by numbers", Dues.check(x, 0, 2, 2, 1, 0, 2), 0);
        lendAndBack(x, 0, 0, 2, 0, 0);
        due("a sort of which its kind has some, itself none", Dues.check(x, 0, 2, 0, 2, 2, 0), NONE);
        due("that sort left out", Dues.check(x, 0, 1, 0, 2), 2);
        ToyHouse y = house(1, 0, 0);
        for (int sort = 0; sort <= 5; sort++) {
            y.pieces(0, sort, 6, 1);
        }
        y.toy(0, 0);
        due("six sorts", Dues.check(y, 0, 6, 0, 6, 1, 6, 2, 6, 3, 6, 4, 6, 5, 6), NONE);
        due("a seventh", Dues.check(y, 0, 7, 0, 6, 1, 6, 2, 6, 3, 6, 4, 6, 5, 6, 6, 0), 12);
        due("five", Dues.check(y, 0, 5, 0, 6, 1, 6, 2, 6, 3, 6, 4, 6, 5, 6), 10);
        due("the last number", Dues.check(y, 0, 6, 0, 6, 1, 6, 2, 6, 3, 6, 4, 6, 5, 5), 11);
    }
}
