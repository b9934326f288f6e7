import java.io.IOException;

/** What the promises 1 to 41 say where they name no boundary, sentence by sentence. */
public final class PromiseWordsTest extends Sentences {
    public static void main(String[] args) throws IOException, ReflectiveOperationException {
        runAll(PromiseWordsTest.class, "What it is");
    }

    /** Free, but LANGUAGE.md wants them to end, and what this class answers then it answers by the same rules. */
    static void laterCalls() {
        of("What it is", "what later calls answer is free");
        ToyHouse x = house();
        for (int i = 0; i < 600; i++) {
            x.waits(i % 2, 0);
            x.leaves(i % 2, 0);
        }
        due("families", x.count(3), 2);
        due("waits that began", x.peak(1), 600);
    }

    static void p03kind() {
        of("Promise 3", "A KIND: its number");
        ToyHouse x = new ToyHouse();
        due("the first", x.kind(0, 5, 0, 0, 1), 0);
        due("the second", x.kind(0, 5, 0, 0, 1), 1);
        due("none comes of a wrong one", x.kind(-1, 5, 0, 0, 1), NONE);
        due("the third", x.kind(0, 5, 0, 0, 1), 2);
    }

    static void p04pieces() {
        of("Promise 4", "Of a SORT KIND k has so many, each of a weight: true");
        ToyHouse x = house(2, 0, 0);
        due("told", x.pieces(1, 4, 3, 50), true);
        due("told anew", x.pieces(1, 4, 2, 60), true);
        x.toy(1, 0);
        x.toy(0, 0);
        due("as told last", x.toyIs(0, 14), 2);
        due("they weigh", x.toyIs(0, 8), 120);
        due("of the other kind none", x.toyIs(1, 14), 0);
    }

    static void p05toy() {
        of("Promise 5", "A TOY: its number");
        ToyHouse x = house(2, 0, 0);
        due("the first", x.toy(1, 7), 0);
        due("the second", x.toy(0, 7), 1);
        due("none comes of a wrong one", x.toy(2, 7), NONE);
        due("the third", x.toy(1, 7), 2);
    }

    static void p06family() {
        of("Promise 6", "A FAMILY: its number");
        ToyHouse x = new ToyHouse();
        due("the first", x.family(5, 5, 1), 0);
        due("none comes of a wrong one", x.family(5, 5, 5), NONE);
        due("the second", x.family(5, 5, 1), 1);
    }

    static void p07bag() {
        of("Promise 7", "What the empty bag weighs");
        ToyHouse x = house();
        x.bag(100);
        due("toy 0", x.toyIs(0, 8), 145);
        due("toy 1", x.toyIs(1, 8), 145);
        due("by a weight", x.weigh(0, 145, 0, 3), 0);
        x.bag(5);
        due("another bag", x.toyIs(0, 8), 50);
    }

    static void p08telling() {
        of("Promise 8", "How many DAYS TELLING takes");
        ToyHouse x = house();
        x.telling(4);
        x.lend(0, 0);
        due("not known", x.where(0, 0, 3), 0);
        due("known", x.where(0, 0, 4), 1);
    }

    static void p11not() {
        of("Promise 11", "Why TOY t could NOT be LENT to FAMILY f NOW");
        ToyHouse x = house();
        x.gift(0, 2, 3);
        due("on day 0", x.not(0, 0), 0);
        x.now(4);
        due("on day 4", x.not(0, 0), 5);
        rules(x, "a(y=4)");
        due("to family 0", x.not(1, 0), 0);
        due("to family 1", x.not(1, 1), 6);
    }

    static void p12lend() {
        of("Promise 12", "TOY t is LENT to FAMILY f: the DAY on which it is DUE");
        ToyHouse x = house();
        x.now(3);
        rules(x, "d10(y=4)");
        due("due", x.lend(1, 0), 13);
        due("due of the other", x.lend(2, 1), 24);
        due("lent", x.toyIs(1, 0), 1);
        due("to family 0", x.toyIs(1, 1), 0);
        due("acts", x.count(8), 2);
    }

    static void p13pieces() {
        of("Promise 13", "TOY t comes BACK with the PIECES told");
        ToyHouse x = house();
        x.lend(0, 0);
        x.lend(1, 0);
        back(x, 1, 1, 0, 0);
        due("of sort 0", x.toyIs(1, 10), 1);
        due("of sort 2", x.toyIs(1, 12), 0);
        due("the other is lent still", x.toyIs(0, 0), 1);
    }

    static void p13owed() {
        of("Promise 13", "what is owed for it (FINE and PIECES)");
        ToyHouse x = house();
        rules(x, "f7(1=1);p100(1=1);o(t=1)");
        x.lend(0, 0);
        x.lend(1, 0);
        x.lend(2, 0);
        due("a fine and two pieces", back(x, 0, 1, 0, 0), 207);
        due("forgiven, and one piece", back(x, 1, 1, 0, 1), 100);
        due("a fine alone", back(x, 2, 2, 0, 1), 7);
        due("together", x.owes(0), 314);
    }

    static void p14lost() {
        of("Promise 14", "TOY t, that is LENT, is LOST");
        ToyHouse x = house();
        x.lend(1, 1);
        due("lost", x.lost(1), 0);
        due("it is", x.toyIs(1, 0), 2);
        due("another is not", x.toyIs(0, 0), 0);
        due("where", x.where(1, 0, 0), 20);
    }

    static void p15wash() {
        of("Promise 15", "TOY t is WASHED");
        ToyHouse x = house();
        makeDirty(x, 0, 0, 2, 0, 1);
        makeDirty(x, 1, 0, 2, 0, 1);
        due("washed", x.wash(1), true);
        due("clean", x.toyIs(1, 5), 0);
        due("the other is not", x.toyIs(0, 5), 1);
    }

    static void p16where() {
        of("Promise 16", "Of TOY t, what 0 where (0 IN THE HOUSE, 1 LENT, 2 LOST, 3 CULLED)");
        ToyHouse x = house();
        due("in the house", x.toyIs(0, 0), 0);
        x.lend(0, 0);
        due("lent", x.toyIs(0, 0), 1);
        x.lost(0);
        due("lost", x.toyIs(0, 0), 2);
        x.cull(1);
        due("culled", x.toyIs(1, 0), 3);
        due("another", x.toyIs(2, 0), 0);
    }

    static void p16others() {
        of("Promise 16", "3 WEAR, 4 how often it was LENT, 5 whether it must be WASHED (1, 0), 6 whether RECALLED (1, 0), 7 what lacks together, 8 what its BAG WEIGHS, 10 + p how many it has of SORT p.");
        ToyHouse x = house();
        x.bag(7);
        rules(x, "w(t=0)");
        lendAndBack(x, 0, 0, 2, 0, 1);
        x.wash(0);
        x.lend(0, 1);
        x.now(4);
        back(x, 0, 1, 0, 0);
        x.recall(1, 5, 5);
        int[] want = {5, 2, 1, 1, 2, 17, NONE, 1, 0, 0, 0, 0, 0};
        int[] other = {0, 0, 0, 0, 0, 52, NONE, 2, 0, 1, 0, 0, 0};
        for (int i = 0; i < want.length; i++) {
            due("what " + (3 + i), x.toyIs(0, 3 + i), want[i]);
            due("of another, what " + (3 + i), x.toyIs(1, 3 + i), other[i]);
        }
    }

    /** Lacking 20 to 25 of 45: two of sort 0, or the one of sort 2. */
    static void p17weigh() {
        of("Promise 17", "BY A WEIGHT of TOY t's BAG, what 0 how many ways, 1 SORTS that are WHOLE SURELY (bits), 2 that LACK SURELY, 3 FEWEST together, 10 + p what lacks of SORT p by it");
        ToyHouse x = house();
        int[] whats = {0, 1, 2, 3, 10, 11, 12};
        int[] either = {2, 58, 0, 1, 0, 0, 1};
        int[] both = {1, 58, 5, 2, 1, 0, 1};
        for (int i = 0; i < whats.length; i++) {
            due("22 by 3, what " + whats[i], x.weigh(0, 22, 3, whats[i]), either[i]);
            due("10 by 0, what " + whats[i], x.weigh(0, 10, 0, whats[i]), both[i]);
        }
    }

    static void p18whole() {
        of("Promise 18", "WHOLE TOYS of KIND k");
        ToyHouse x = house();
        x.kind(0, 1, 0, 0, 9);
        x.toy(1, 0);
        due("kind 0", x.whole(0, 0), 3);
        due("kind 1", x.whole(1, 0), 1);
        due("which", x.whole(1, 2), 8);
    }

    static void p19waits() {
        of("Promise 19", "FAMILY f waits for KIND k from NOW on");
        ToyHouse x = house();
        rules(x, "n1+q(1=1)");
        x.now(5);
        x.waits(1, 0);
        due("on that day", x.next(0, 1), 1);
        x.now(8);
        due("three days later", x.next(0, 1), 4);
        due("who", x.next(0, 0), 1);
    }

    static void p20leaves() {
        of("Promise 20", "FAMILY f waits no more for KIND k");
        ToyHouse x = house(2, 0, 2);
        x.waits(0, 0);
        x.waits(0, 1);
        x.waits(1, 1);
        due("leaves", x.leaves(0, 1), true);
        due("for kind 0 it waits still", x.count(10), 1);
        due("for kind 1 the other waits", x.next(1, 0), 1);
        due("alone", x.count(11), 1);
    }

    static void p21next() {
        of("Promise 21", "WHO COMES NEXT for KIND k (what 0), of what TURN (1), how many wait (2)");
        ToyHouse x = house(1, 0, 3);
        rules(x, "n50-e(1=1)");
        x.waits(2, 0);
        x.waits(1, 0);
        due("who", x.next(0, 0), 1);
        due("of what turn", x.next(0, 1), 49);
        due("how many", x.next(0, 2), 2);
    }

    static void p22buying() {
        of("Promise 22", "THE BUYING, what NONE how many more are SERVED than now, 8 its coin");
        ToyHouse x = house(1, 1, 4);
        for (int f = 0; f < 4; f++) {
            x.waits(f, 0);
        }
        due("by two more", x.buying(299, 3, NONE), 2);
        due("their coin", x.buying(299, 3, 8), 200);
        due("by three more", x.buying(300, 3, NONE), 3);
        due("their coin", x.buying(300, 3, 8), 300);
        due("with enough now", x.buying(300, 12, NONE), 0);
        due("for no coin", x.buying(300, 12, 8), 0);
    }

    static void p23van() {
        of("Promise 23", "THE VAN's shelf");
        ToyHouse x = house();
        x.waits(1, 0);
        due("the set", x.van(3, 6, 0), 1);
        due("who finds one", x.van(3, 6, 1), 1);
        x.cull(0);
        due("the set then", x.van(3, 6, 0), 2);
    }

    static void p25mending() {
        of("Promise 25", "MENDING with so many minutes");
        ToyHouse x = house();
        lendAndBack(x, 0, 0, 1, 0, 1);
        lendAndBack(x, 2, 0, 0, 0, 1);
        due("9", x.mending(9, 0), 0);
        due("10", x.mending(10, 0), 1);
        due("29", x.mending(29, 0), 1);
        due("30", x.mending(30, 0), 5);
    }

    static void p26mend() {
        of("Promise 26", "TOY t is MENDED: how many PIECES it got");
        ToyHouse x = house();
        lendAndBack(x, 1, 0, 0, 0, 1);
        lendAndBack(x, 2, 0, 0, 0, 0);
        due("two", x.mend(1), 2);
        due("whole", x.toyIs(1, 7), 0);
        due("three", x.mend(2), 3);
        due("of sort 2", x.toyIs(2, 12), 1);
    }

    static void p27rota() {
        of("Promise 27", "THE ROTA with c a DAY: on which DAY TOY t is WASHED");
        ToyHouse x = house();
        makeDirty(x, 0, 0, 2, 0, 1);
        makeDirty(x, 2, 0, 2, 0, 1);
        x.now(40);
        due("the first", x.rota(1, 0), 40);
        due("the second", x.rota(1, 2), 41);
        due("two a day", x.rota(2, 2), 40);
        x.wash(0);
        due("the first then", x.rota(1, 2), 40);
    }

    static void p28recall() {
        of("Promise 28", "A RECALL of a MAKER's batches from one to another");
        ToyHouse x = house();
        due("the first", x.recall(1, 6, 7), 0);
        due("the second", x.recall(0, 0, 99), 1);
        due("toys 1 and 2", x.recalled(0, 0), 6);
        due("none of maker 0", x.recalled(1, 0), 0);
    }

    static void p31gift() {
        of("Promise 31", "A GIFT's term for TOY t: true");
        ToyHouse x = house();
        due("told", x.gift(1, 3, 5), true);
        due("need 2", x.not(1, 0), 5);
        due("need 6", x.not(1, 1), 0);
        due("told again", x.gift(1, 3, 5), true);
        due("gifts", x.count(7), 2);
    }

    static void p33pays() {
        of("Promise 33", "FAMILY f PAYS");
        ToyHouse x = house();
        rules(x, "f9(1=1)");
        lendAndBack(x, 0, 0, 2, 0, 1);
        lendAndBack(x, 1, 1, 2, 0, 1);
        due("family 1 pays", x.pays(1, 4), 5);
        due("family 0 owes still", x.owes(0), 9);
    }

    static void p37why() {
        of("Promise 37", "WHY TOY t is UNWANTED for d DAYS");
        ToyHouse x = house();
        x.now(10);
        due("nobody asks for it", x.why(0, 10), 8);
        lendAndBack(x, 1, 0, 1, 0, 1);
        x.now(12);
        due("it lacks something", x.why(1, 2), 3);
        due("for three days it is not", x.why(1, 3), 0);
    }

    static void p38cull() {
        of("Promise 38", "TOY t is CULLED");
        ToyHouse x = house();
        due("culled", x.cull(1), true);
        due("it is", x.toyIs(1, 0), 3);
        due("another is not", x.toyIs(0, 0), 0);
        due("toys", x.count(2), 3);
    }

    static void p39where() {
        of("Promise 39", "WHERE TOY t was");
        ToyHouse x = house();
        x.lend(0, 1);
        due("toy 0", x.where(0, 0, 0), 2);
        due("toy 1", x.where(1, 0, 0), 0);
    }

    static void p40check() {
        of("Promise 40", "CHECK of TOY t by the first 2 n numbers");
        ToyHouse x = house();
        lendAndBack(x, 1, 0, 1, 0, 1);
        due("toy 0", Dues.check(x, 0, 2, 0, 2, 2, 1), NONE);
        due("toy 1", Dues.check(x, 1, 2, 0, 2, 2, 1), 1);
    }

    static void p40right() {
        of("Promise 40", "NONE: right; else the place");
        due("right", Dues.check(house(), 0, 2, 0, 2, 2, 1), NONE);
        due("else", Dues.check(house(), 0, 2, 0, 2, 2, 0), 3);
    }
}
