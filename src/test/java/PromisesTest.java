/** For each promise of the document: ordinary inputs, the edges that it names, and wrong inputs. */
public final class PromisesTest {
    private static final Dues DUES = new Dues("PromisesTest");
    private static final int MIN = Integer.MIN_VALUE;
    private static final int MAX = Integer.MAX_VALUE;

    public static void main(String[] args) {
        newObject();
        now();
        kind();
        pieces();
        toy();
        family();
        bagAndTelling();
        feed();
        rules();
        not();
        lend();
        back();
        backWithFines();
        lost();
        wash();
        toyIs();
        weigh();
        whole();
        waitsAndLeaves();
        next();
        buying();
        van();
        vanByRules();
        minutesAndMending();
        mend();
        rota();
        recall();
        toldAndRecalled();
        gift();
        owesAndPays();
        forgiving();
        peak();
        unwantedAndWhy();
        cull();
        where();
        check();
        count();
        fullHouse();
        DUES.end();
    }

    private static void due(String call, long got, long want) {
        DUES.due(call, got, want);
    }

    private static void due(String call, boolean got, boolean want) {
        DUES.due(call, got, want);
    }

    /** One kind with two pieces of sort 0 and one of sort 2, three toys, two families. */
    private static ToyHouse small() {
        ToyHouse x = new ToyHouse();
        x.kind(3, 500, 2, 1, 30);
        x.pieces(0, 0, 2, 10);
        x.pieces(0, 2, 1, 25);
        x.toy(0, 5);
        x.toy(0, 6);
        x.toy(0, 7);
        x.family(4, 2, 0);
        x.family(1, 6, 3);
        return x;
    }

    private static void lendAndBack(ToyHouse x, int t, int f, int... pieces) {
        x.lend(t, f);
        Dues.back(x, t, pieces);
    }

    private static void newObject() {
        ToyHouse x = new ToyHouse();
        for (int what = 0; what <= 8; what++) {
            due("count " + what + " of a new house", x.count(what), 0);
        }
        due("count 10 of a new house", x.count(10), -1);
        due("count 20 of a new house", x.count(20), -1);
        due("NONE", ToyHouse.NONE, -1);
        due("peak 0 of a new house", x.peak(0), 0);
        due("peak 1 of a new house", x.peak(1), 0);
        due("forgiving 0 of a new house", x.forgiving(0), 0);
        due("unwanted of a new house", x.unwanted(1), 0);
        due("buying of a new house", x.buying(100, 1, -1), 0);
        due("buying's coin of a new house", x.buying(100, 1, 8), 0);
        due("buying's kind of a new house", x.buying(100, 1, 0), -1);
        due("van of a new house", x.van(0, 1, 0), 0);
        due("mending of a new house", x.mending(0, 0), 0);
        ToyHouse y = new ToyHouse();
        y.now(5);
        due("houses stand apart", x.count(0), 0);
    }

    private static void now() {
        ToyHouse x = new ToyHouse();
        due("now -1", x.now(-1), false);
        due("now 0", x.now(0), true);
        due("now 5", x.now(5), true);
        due("now 5 again", x.now(5), true);
        due("now 4 is past", x.now(4), false);
        due("NOW", x.count(0), 5);
        due("now 700", x.now(700), false);
        due("now MIN", x.now(MIN), false);
        due("now MAX", x.now(MAX), false);
        due("now 699", x.now(699), true);
        due("NOW", x.count(0), 699);
    }

    private static void kind() {
        ToyHouse x = new ToyHouse();
        int[][] wrong = {{-1, 1, 0, 0, 1}, {16, 1, 0, 0, 1}, {0, 0, 0, 0, 1}, {0, 20001, 0, 0, 1}, {0, 1, -1, 0, 1},
            {0, 1, 10, 0, 1}, {0, 1, 0, -1, 1}, {0, 1, 0, 6, 1}, {0, 1, 0, 0, 0}, {0, 1, 0, 0, 1001}};
        for (int[] w : wrong) {
            due("kind " + java.util.Arrays.toString(w), x.kind(w[0], w[1], w[2], w[3], w[4]), -1);
        }
        due("no kind came of it", x.count(1), 0);
        due("kind at its lowest", x.kind(0, 1, 0, 0, 1), 0);
        due("kind at its highest", x.kind(15, 20000, 9, 5, 1000), 1);
        for (int k = 2; k < 8; k++) {
            due("kind " + k, x.kind(1, 1, 1, 1, 1), k);
        }
        due("a ninth kind", x.kind(1, 1, 1, 1, 1), -1);
        due("kinds", x.count(1), 8);
    }

    private static void pieces() {
        ToyHouse x = new ToyHouse();
        due("pieces of no kind", x.pieces(0, 0, 1, 1), false);
        x.kind(0, 1, 0, 0, 1);
        x.kind(0, 1, 0, 0, 1);
        int[][] wrong = {{-1, 0, 1, 1}, {2, 0, 1, 1}, {0, -1, 1, 1}, {0, 6, 1, 1}, {0, 0, -1, 1}, {0, 0, 7, 1},
            {0, 0, 1, 0}, {0, 0, 1, 401}, {0, 0, 0, 0}};
        for (int[] w : wrong) {
            due("pieces " + java.util.Arrays.toString(w), x.pieces(w[0], w[1], w[2], w[3]), false);
        }
        due("pieces", x.pieces(0, 0, 5, 3), true);
        due("pieces again", x.pieces(0, 0, 6, 400), true);
        due("pieces of sort 5", x.pieces(0, 5, 1, 1), true);
        due("no pieces", x.pieces(0, 3, 0, 1), true);
        x.toy(0, 0);
        due("a toy is there", x.pieces(0, 1, 1, 1), false);
        due("none of the other kind", x.pieces(1, 1, 1, 1), true);
        due("all at first", x.toyIs(0, 10), 6);
        due("sort 5", x.toyIs(0, 15), 1);
        due("sort 1", x.toyIs(0, 11), 0);
        due("weight", x.toyIs(0, 8), 2401);
        x.cull(0);
        due("a culled toy is there all the same", x.pieces(0, 1, 1, 1), false);
    }

    private static void toy() {
        ToyHouse x = new ToyHouse();
        due("toy of no kind", x.toy(0, 0), -1);
        x.kind(0, 1, 0, 0, 1);
        due("toy of kind -1", x.toy(-1, 0), -1);
        due("toy of batch -1", x.toy(0, -1), -1);
        due("toy of batch 100", x.toy(0, 100), -1);
        for (int t = 0; t < 16; t++) {
            due("toy " + t, x.toy(0, t % 2 * 99), t);
        }
        due("a seventeenth toy", x.toy(0, 0), -1);
        due("toys", x.count(2), 16);
    }

    private static void family() {
        ToyHouse x = new ToyHouse();
        int[][] wrong = {{-1, 0, 0}, {16, 0, 0}, {0, -1, 0}, {0, 10, 0}, {0, 0, -1}, {0, 0, 5}};
        for (int[] w : wrong) {
            due("family " + java.util.Arrays.toString(w), x.family(w[0], w[1], w[2]), -1);
        }
        for (int f = 0; f < 10; f++) {
            due("family " + f, x.family(f % 2 * 15, f % 2 * 9, f % 2 * 4), f);
        }
        due("an eleventh family", x.family(0, 0, 0), -1);
        due("families", x.count(3), 10);
    }

    private static void bagAndTelling() {
        ToyHouse x = small();
        due("bag -1", x.bag(-1), false);
        due("bag 2001", x.bag(2001), false);
        due("weight without a bag's", x.toyIs(0, 8), 45);
        due("bag 2000", x.bag(2000), true);
        due("weight with the bag's", x.toyIs(0, 8), 2045);
        due("bag 0", x.bag(0), true);
        due("weight with none again", x.toyIs(0, 8), 45);
        due("telling -1", x.telling(-1), false);
        due("telling 31", x.telling(31), false);
        due("telling 30", x.telling(30), true);
        x.lend(0, 0);
        due("telling 0", x.telling(0), true);
        due("as it was at the act", x.where(0, 0, 29), 0);
        due("known then", x.where(0, 0, 30), 1);
    }

    private static void feed() {
        ToyHouse x = new ToyHouse();
        for (int i = 1; i <= 11; i++) {
            due("feed " + i, x.feed(0, 0, 0, 0, 0), 20 * i);
        }
        due("a twelfth feed", x.feed(0, 0, 0, 0, 0), -1);
        due("the tape", x.count(5), 220);
        x.rules(1);
        due("the highest byte first", x.feed('o' << 24 | '(' << 16 | '1' << 8 | '=', '1' << 24 | ')' << 16, 0, 0, 0), 20);
        due("rules of it", x.rules(6), 1);
        x.kind(0, 1, 0, 0, 1);
        x.pieces(0, 0, 6, 1);
        x.toy(0, 0);
        x.family(0, 0, 0);
        x.lend(0, 0);
        x.feed(-1, -1, -1, -1, -1);
        due("bytes of 255", x.back(0), -2);
    }

    private static void rules() {
        ToyHouse x = new ToyHouse();
        due("rules of no tape", x.rules(1), -1);
        Dues.feedBytes(x, Dues.bytesOf("o(1=1);d5(1=1)"));
        due("rules 0", x.rules(0), -1);
        due("rules -1", x.rules(-1), -1);
        due("rules 21", x.rules(21), -1);
        due("rules 201", x.rules(201), -1);
        due("rules MAX", x.rules(MAX), -1);
        due("the tape stays", x.count(5), 20);
        due("rules", x.rules(14), 2);
        due("the tape is empty then", x.count(5), 0);
        due("clauses", x.count(4), 2);
        due("a fault", Dues.rules(x, "o(1=1);d"), -1008);
        due("the text before stays", x.count(4), 2);
        due("the tape is empty then, too", x.count(5), 0);
        x.kind(0, 1, 0, 0, 1);
        x.toy(0, 0);
        x.family(0, 0, 0);
        due("by the text before", x.lend(0, 0), 5);
        due("in place of those before", Dues.rules(x, "d9(1=1)"), 1);
        due("clauses", x.count(4), 1);
        x.toy(0, 0);
        due("by the new text", x.lend(1, 0), 9);
        for (int i = 0; i < 11; i++) {
            x.feed(0, 0, 0, 0, 0);
        }
        due("201 of 220", x.rules(201), -1);
        due("200 of 220", x.rules(200), -1000);
    }

    private static void not() {
        ToyHouse x = small();
        due("not of no toy", x.not(3, 0), -1);
        due("not of toy -1", x.not(-1, 0), -1);
        due("not of no family", x.not(0, 2), -1);
        due("not of family -1", x.not(0, -1), -1);
        due("it could", x.not(0, 0), 0);
        x.lend(0, 0);
        due("lent", x.not(0, 0), 1);
        x.cull(1);
        due("culled", x.not(1, 0), 1);
        x.lend(2, 0);
        x.lost(2);
        due("lost", x.not(2, 0), 1);
        // all that bars toy 0 stands together, and is taken away from the first on
        x.gift(0, 1, 0);
        x.recall(1, 5, 5);
        x.now(40);
        Dues.rules(x, "w(1=1)");
        Dues.back(x, 0, 2, 0, 1);
        Dues.rules(x, "a(1=2);u(1=1)");
        due("to be washed", x.not(0, 0), 2);
        x.wash(0);
        due("recalled", x.not(0, 0), 3);
        x = small();
        x.gift(0, 1, 0);
        x.lend(0, 1);
        x.now(30);
        Dues.back(x, 0, 2, 0, 1);
        Dues.rules(x, "a(1=2);u(1=1)");
        due("worn at just what it bears", x.not(0, 0), 4);
        x = small();
        x.gift(0, 1, 0);
        x.lend(0, 1);
        x.now(29);
        Dues.back(x, 0, 2, 0, 1);
        Dues.rules(x, "a(1=2);u(1=1)");
        due("not worn yet, a term", x.not(0, 0), 5);
        due("no term for the other", x.not(0, 1), 6);
        Dues.rules(x, "a(1=1);a(1=2);a(1=1);u(1=1)");
        due("some a does not hold", x.not(0, 1), 6);
        Dues.rules(x, "a(1=1);u(1=2);u(1=1);u(1=2)");
        due("some u holds", x.not(0, 1), 7);
        Dues.rules(x, "a(1=1);u(1=2)");
        due("all a hold and no u", x.not(0, 1), 0);
        due("whole ones need not be", x.not(0, 1), 0);
    }

    private static void lend() {
        ToyHouse x = small();
        due("lend no toy", x.lend(3, 0), -1);
        due("lend toy -1", x.lend(-1, 0), -1);
        due("lend to no family", x.lend(0, 2), -1);
        due("lend to family -1", x.lend(0, -1), -1);
        x.now(7);
        Dues.rules(x, "d3(y=4);d8(1=1)");
        due("lend", x.lend(0, 0), 10);
        due("lend to the other", x.lend(1, 1), 15);
        due("lend what is lent", x.lend(0, 1), -1);
        due("where", x.toyIs(0, 0), 1);
        due("to whom", x.toyIs(1, 1), 1);
        due("due", x.toyIs(1, 2), 15);
        due("times", x.toyIs(0, 4), 1);
        due("acts", x.count(8), 2);
        x.now(699);
        due("due behind the last day", x.lend(2, 1), 707);
        x = small();
        x.kind(0, 1, 0, 0, 1);
        x.waits(0, 0);
        x.waits(0, 1);
        x.waits(1, 0);
        x.lend(0, 0);
        due("waits no more", x.count(10), 1);
        due("waits for the other kind", x.count(11), 1);
        due("can wait anew", x.waits(0, 0), true);
        x.lend(1, 1);
        due("the other waits no more, too", x.leaves(1, 0), false);
        x = small();
        x.waits(1, 0);
        x.lend(0, 0);
        due("the other waits still", x.count(10), 1);
    }

    private static void back() {
        ToyHouse x = small();
        due("back of no toy", x.back(3), -1);
        due("back of toy -1", x.back(-1), -1);
        x.feed(0x02000100, 0, 0, 0, 0);
        due("back of one in the house", x.back(0), -1);
        due("the tape stays", x.count(5), 20);
        x.lend(0, 0);
        due("back", x.back(0), 0);
        due("the tape is empty then", x.count(5), 0);
        due("in the house", x.toyIs(0, 0), 0);
        due("of no family", x.toyIs(0, 1), -1);
        due("not due", x.toyIs(0, 2), -1);
        due("a day of wear at least", x.toyIs(0, 3), 1);
        due("whole", x.toyIs(0, 7), 0);
        x.lend(0, 0);
        due("back without a tape", x.back(0), -1);
        due("lent still", x.toyIs(0, 0), 1);
        due("more than it had", Dues.back(x, 0, 3, 0, 1), -2);
        due("a sort that it has not", Dues.back(x, 0, 2, 1, 1), -2);
        due("the last sort", Dues.back(x, 0, 2, 0, 1, 0, 0, 1), -2);
        due("lent still", x.toyIs(0, 0), 1);
        due("no wear more", x.toyIs(0, 3), 1);
        due("the tape is empty then", x.count(5), 0);
        due("acts", x.count(8), 3);
        x.now(6);
        due("some lack", Dues.back(x, 0, 1, 0, 1), 0);
        due("wear by days", x.toyIs(0, 3), 7);
        due("what lacks", x.toyIs(0, 7), 1);
        due("of sort 0", x.toyIs(0, 10), 1);
        x.lend(0, 0);
        due("not more than it had then", Dues.back(x, 0, 2, 0, 1), -2);
        due("as it had", Dues.back(x, 0, 1, 0, 1), 0);
        x.lend(0, 0);
        x.feed(0x01000100, 0x00007f7f, 0, 0, 0);
        due("six bytes alone count", x.back(0), 0);
        due("acts", x.count(8), 8);
    }

    private static void backWithFines() {
        ToyHouse x = small();
        Dues.rules(x, "d5(1=1);fl*10(l>0);f3(1=1);p20(1=1);o(y=1);w(m>0)");
        x.lend(0, 0);
        x.lend(1, 1);
        x.lend(2, 0);
        x.now(5);
        due("on the day it is due: not late", Dues.back(x, 2, 2, 0, 1), 3);
        due("not to be washed", x.toyIs(2, 5), 0);
        x.now(7);
        due("late by two days", Dues.back(x, 0, 1, 0, 0), 60);
        due("to be washed", x.toyIs(0, 5), 1);
        due("owed", x.owes(0), 63);
        due("forgiven, but not the pieces", Dues.back(x, 1, 0, 0, 1), 40);
        due("owed", x.owes(1), 40);
        x = small();
        Dues.rules(x, "p20(1=1)");
        lendAndBack(x, 0, 0, 1, 0, 1);
        due("one piece", x.owes(0), 20);
        lendAndBack(x, 0, 0, 1, 0, 1);
        due("a piece that it had not is not paid for", x.owes(0), 20);
    }

    private static void lost() {
        ToyHouse x = small();
        due("lost of no toy", x.lost(3), -1);
        due("lost of toy -1", x.lost(-1), -1);
        due("lost of one in the house", x.lost(0), -1);
        Dues.rules(x, "p10+l(1=1);f99(1=1);d1(1=1);w(1=1)");
        x.lend(0, 0);
        x.now(9);
        due("lost", x.lost(0), 30);
        due("owed", x.owes(0), 30);
        due("it is lost", x.toyIs(0, 0), 2);
        due("of no family", x.toyIs(0, 1), -1);
        due("not due", x.toyIs(0, 2), -1);
        due("no wear", x.toyIs(0, 3), 0);
        due("times", x.toyIs(0, 4), 1);
        due("what it had", x.toyIs(0, 10), 2);
        due("not to be washed", x.toyIs(0, 5), 0);
        due("lost once", x.lost(0), -1);
        due("family has none", x.count(20), 0);
        due("acts", x.count(8), 2);
        due("never lent again", x.lend(0, 0), -1);
        due("never back", Dues.back(x, 0, 2, 0, 1), -1);
        x.rules(1);
        Dues.rules(x, "p10(1=1)");
        x.lend(1, 0);
        Dues.back(x, 1, 1);
        x.lend(1, 1);
        due("only what it had is paid for", x.lost(1), 10);
    }

    private static void wash() {
        ToyHouse x = small();
        due("wash no toy", x.wash(3), false);
        due("wash toy -1", x.wash(-1), false);
        due("wash what need not be", x.wash(0), false);
        Dues.rules(x, "w(t=1);w(t=0)");
        lendAndBack(x, 0, 0, 2, 0, 1);
        lendAndBack(x, 2, 0, 2, 0, 1);
        due("must be", x.toyIs(0, 5), 1);
        due("must not be", x.toyIs(2, 5), 0);
        due("wash", x.wash(0), true);
        due("washed", x.toyIs(0, 5), 0);
        due("wash again", x.wash(0), false);
    }

    private static void toyIs() {
        ToyHouse x = small();
        int[] wrong = {-1, 9, 16, 17, 20, MIN, MAX};
        for (int what : wrong) {
            due("toyIs " + what, x.toyIs(0, what), -1);
        }
        due("toyIs of no toy", x.toyIs(3, 0), -1);
        due("toyIs of toy -1", x.toyIs(-1, 0), -1);
        int[] want = {0, -1, -1, 0, 0, 0, 0, 0, 45};
        for (int what = 0; what < want.length; what++) {
            due("toyIs " + what + " at first", x.toyIs(0, what), want[what]);
        }
        due("sort 2", x.toyIs(0, 12), 1);
        x.recall(1, 6, 6);
        due("recalled", x.toyIs(1, 6), 1);
        due("not recalled", x.toyIs(0, 6), 0);
        x.toy(0, 6);
        due("told later, recalled, too", x.toyIs(3, 6), 1);
        x.lend(0, 1);
        x.now(8);
        Dues.back(x, 0, 1, 0, 0);
        int[] then = {0, -1, -1, 8, 1, 0, 0, 2, 10};
        for (int what = 0; what < then.length; what++) {
            due("toyIs " + what + " then", x.toyIs(0, what), then[what]);
        }
    }

    private static void weigh() {
        ToyHouse x = new ToyHouse();
        x.kind(0, 1, 0, 0, 99);
        x.pieces(0, 0, 3, 10);
        x.pieces(0, 1, 2, 20);
        x.pieces(0, 3, 1, 30);
        x.toy(0, 0);
        x.bag(50);
        int[][] wrong = {{1, 0, 0, 0}, {-1, 0, 0, 0}, {0, -1, 0, 0}, {0, 200001, 0, 0}, {0, 0, -1, 0}, {0, 0, 2001, 0},
            {0, 0, 0, -1}, {0, 0, 0, 4}, {0, 0, 0, 9}, {0, 0, 0, 16}};
        for (int[] w : wrong) {
            due("weigh " + java.util.Arrays.toString(w), x.weigh(w[0], w[1], w[2], w[3]), -1);
        }
        due("nothing lacks: ways", x.weigh(0, 150, 0, 0), 1);
        due("nothing lacks: whole", x.weigh(0, 150, 0, 1), 63);
        // 30 lack: 3 of 10; 10 and 20; 30
        due("ways", x.weigh(0, 120, 0, 0), 3);
        due("whole surely", x.weigh(0, 120, 0, 1), 63 - 11);
        due("lack surely", x.weigh(0, 120, 0, 2), 0);
        due("fewest", x.weigh(0, 120, 0, 3), 1);
        due("fewest of sort 0", x.weigh(0, 120, 0, 10), 0);
        due("fewest of sort 3", x.weigh(0, 120, 0, 13), 1);
        // 40 lack: 10 10 20, 20 20, 10 30: the least row of two is 0 2 0 0
        due("ways", x.weigh(0, 110, 0, 0), 3);
        due("fewest", x.weigh(0, 110, 0, 3), 2);
        due("the least row", x.weigh(0, 110, 0, 10), 0);
        due("the least row", x.weigh(0, 110, 0, 11), 2);
        // 90 lack: 10 10 20 20 30 alone
        due("lack surely", x.weigh(0, 60, 0, 2), 11);
        due("fewest", x.weigh(0, 60, 0, 3), 5);
        due("all lack", x.weigh(0, 50, 0, 3), 6);
        due("below the empty bag", x.weigh(0, 49, 0, 0), -2);
        due("below the empty bag, within e", x.weigh(0, 49, 1, 0), 1);
        due("above all", x.weigh(0, 151, 0, 1), -2);
        due("above all, within e", x.weigh(0, 151, 1, 3), 0);
        due("far above", x.weigh(0, 200000, 2000, 10), -2);
        due("any way", x.weigh(0, 100, 2000, 0), 24);
        due("between", x.weigh(0, 145, 4, 0), -2);
        due("just e away", x.weigh(0, 145, 5, 0), 2);
        due("sort 0 is open", x.weigh(0, 145, 5, 1), 62);
        x.family(0, 0, 0);
        x.lend(0, 0);
        due("while it is lent", x.weigh(0, 150, 0, 0), 1);
        Dues.back(x, 0, 3, 1, 0, 0);
        due("of what it had", x.weigh(0, 100, 0, 0), 1);
        due("of what it had: whole", x.weigh(0, 100, 0, 1), 63);
        due("never more than it had", x.weigh(0, 110, 0, 0), -2);
    }

    private static void whole() {
        ToyHouse x = small();
        due("whole of no kind", x.whole(1, 0), -1);
        due("whole of kind -1", x.whole(-1, 0), -1);
        due("whole what 3", x.whole(0, 3), -1);
        due("whole what -1", x.whole(0, -1), -1);
        due("three", x.whole(0, 0), 3);
        due("none moved", x.whole(0, 1), 0);
        due("which", x.whole(0, 2), 7);
        lendAndBack(x, 0, 0, 1, 0, 1);
        due("5 and 3 pieces make two", x.whole(0, 0), 2);
        due("none moved", x.whole(0, 1), 0);
        due("which", x.whole(0, 2), 6);
        lendAndBack(x, 1, 0, 1, 0, 1);
        due("4 and 3 make two", x.whole(0, 0), 2);
        due("one moved", x.whole(0, 1), 1);
        due("the lowest of like ones", x.whole(0, 2), 5);
        lendAndBack(x, 2, 0, 2, 0, 0);
        due("4 and 2 make two", x.whole(0, 0), 2);
        due("two moved", x.whole(0, 1), 2);
        due("which", x.whole(0, 2), 3);
        x.lend(2, 0);
        due("2 and 2 make one", x.whole(0, 0), 1);
        due("which", x.whole(0, 2), 1);
        x.recall(1, 5, 5);
        due("1 and 1 make none", x.whole(0, 0), 0);
        due("none", x.whole(0, 2), 0);
        due("none moved", x.whole(0, 1), 0);
        x.kind(0, 1, 0, 0, 1);
        due("no toys", x.whole(1, 0), 0);
        x.toy(1, 0);
        x.toy(1, 0);
        due("without pieces all are whole", x.whole(1, 0), 2);
        due("which", x.whole(1, 2), 24);
        x.cull(3);
        due("culled ones aside", x.whole(1, 2), 16);
    }

    private static void waitsAndLeaves() {
        ToyHouse x = small();
        due("waits of no family", x.waits(2, 0), false);
        due("waits of family -1", x.waits(-1, 0), false);
        due("waits for no kind", x.waits(0, 1), false);
        due("waits for kind -1", x.waits(0, -1), false);
        due("nobody waits", x.count(10), 0);
        due("waits", x.waits(0, 0), true);
        due("waits again", x.waits(0, 0), false);
        due("the other waits", x.waits(1, 0), true);
        due("two wait", x.count(10), 2);
        due("leaves of no family", x.leaves(2, 0), false);
        due("leaves of family -1", x.leaves(-1, 0), false);
        due("leaves no kind", x.leaves(0, 1), false);
        due("leaves kind -1", x.leaves(0, -1), false);
        due("leaves", x.leaves(0, 0), true);
        due("leaves again", x.leaves(0, 0), false);
        due("one waits", x.count(10), 1);
        x.now(9);
        due("waits anew", x.waits(0, 0), true);
        Dues.rules(x, "n100-q(1=1)");
        due("from now on", x.next(0, 1), 100);
        x.kind(1, 1, 1, 1, 1);
        due("waits on the last day", x.now(699) && x.waits(0, 1), true);
    }

    private static void next() {
        ToyHouse x = small();
        due("next of no kind", x.next(1, 0), -1000000);
        due("next of no kind, how many", x.next(1, 2), -1000000);
        due("next of kind -1", x.next(-1, 2), -1000000);
        due("next what 3", x.next(0, 3), -1000000);
        due("next what -1", x.next(0, -1), -1000000);
        due("nobody", x.next(0, 0), -1000000);
        due("nobody's turn", x.next(0, 1), -1000000);
        due("nobody waits", x.next(0, 2), 0);
        x.family(0, 6, 0);
        x.now(3);
        x.waits(2, 0);
        x.now(4);
        x.waits(1, 0);
        x.waits(0, 0);
        due("who waits longest", x.next(0, 0), 2);
        due("of turn 0", x.next(0, 1), 0);
        due("three wait", x.next(0, 2), 3);
        x.leaves(2, 0);
        due("of like ones the lowest", x.next(0, 0), 0);
        x.waits(2, 0);
        Dues.rules(x, "ne(1=1)");
        due("the greatest turn", x.next(0, 0), 1);
        due("its turn", x.next(0, 1), 6);
        Dues.rules(x, "n0-e(1=1)");
        due("the greatest turn below 0", x.next(0, 0), 0);
        due("its turn", x.next(0, 1), -2);
    }

    private static void buying() {
        ToyHouse x = new ToyHouse();
        x.kind(0, 100, 0, 0, 9);
        x.kind(0, 100, 0, 1, 9);
        x.kind(0, 50, 0, 2, 9);
        for (int f = 0; f < 6; f++) {
            x.family(0, 0, 0);
            x.waits(f, 0);
            x.waits(f, 1);
        }
        int[][] wrong = {{-1, 1, 0}, {60001, 1, 0}, {0, 0, 0}, {0, 100, 0}, {0, 1, -2}, {0, 1, 3}, {0, 1, 7}, {0, 1, 9}};
        for (int[] w : wrong) {
            due("buying " + java.util.Arrays.toString(w), x.buying(w[0], w[1], w[2]), -1);
        }
        due("of like ones the least row", x.buying(100, 3, 0), 0);
        due("of like ones the least row", x.buying(100, 3, 1), 1);
        due("served", x.buying(100, 3, -1), 1);
        due("coin", x.buying(100, 3, 8), 100);
        due("three at most", x.buying(60000, 3, -1), 6);
        due("three at most", x.buying(60000, 3, 0), 3);
        due("what nobody waits for", x.buying(60000, 3, 2), 0);
        due("its coin", x.buying(60000, 3, 8), 600);
        due("no coin", x.buying(0, 99, -1), 0);
        due("at most all", x.buying(60000, 99, -1), 12);
        due("least coin", x.buying(60000, 99, 8), 200);
        due("rounded down", x.buying(60000, 2, -1), 4);
        due("two of each through 3 times 2", x.buying(60000, 2, 8), 600);
        due("one week: three for one", x.buying(299, 1, -1), 0);
        due("nothing is bought for nothing", x.buying(299, 1, 8), 0);
        due("one week: three for one", x.buying(300, 1, 1), 3);
        x.toy(0, 0);
        x.toy(0, 1);
        due("two toys there: one new is enough", x.buying(300, 1, -1), 1);
        due("two toys there", x.buying(300, 1, 0), 1);
        due("and its coin", x.buying(300, 1, 8), 100);
        x.lend(0, 5);
        due("a lent one counts, who got it waits no more", x.buying(300, 1, 0), 1);
        x.lost(0);
        due("a lost one does not", x.buying(200, 1, 0), 2);
        x.recall(0, 1, 1);
        due("a recalled one does not", x.buying(200, 1, 0), 0);
        due("a recalled one does not", x.buying(300, 1, -1), 1);
        x.toy(1, 0);
        x.cull(2);
        due("a culled one does not", x.buying(200, 1, -1), 0);
        due("more than now", x.buying(60000, 3, -1), 6);
    }

    private static void van() {
        ToyHouse x = new ToyHouse();
        x.kind(0, 100, 0, 0, 9);
        x.kind(0, 100, 0, 0, 9);
        x.toy(0, 0);
        x.toy(0, 0);
        x.toy(1, 0);
        for (int f = 0; f < 4; f++) {
            x.family(0, 0, f == 3 ? 1 : 2);
        }
        int[][] wrong = {{-1, 1, 0}, {5, 1, 0}, {0, 0, 0}, {0, 7, 0}, {0, 1, -1}, {0, 1, 2}};
        for (int[] w : wrong) {
            due("van " + java.util.Arrays.toString(w), x.van(w[0], w[1], w[2]), -1);
        }
        due("nobody waits", x.van(2, 6, 0), 0);
        x.waits(0, 1);
        due("one toy for one", x.van(2, 6, 0), 4);
        x.waits(0, 0);
        due("each one toy", x.van(2, 6, 1), 1);
        due("of fewest toys, the least set", x.van(2, 6, 0), 1);
        x.waits(1, 0);
        due("two", x.van(2, 6, 0), 3);
        due("one of a shelf of one", x.van(2, 1, 0), 1);
        due("one of a shelf of one", x.van(2, 1, 1), 1);
        x.leaves(0, 0);
        due("both kinds", x.van(2, 6, 0), 5);
        x.waits(2, 0);
        due("three", x.van(2, 6, 0), 7);
        due("three families", x.van(2, 6, 1), 3);
        due("two of them", x.van(2, 2, 0), 3);
        x.waits(3, 0);
        due("another village", x.van(1, 6, 0), 1);
        due("a village without families", x.van(0, 6, 1), 0);
    }

    private static void vanByRules() {
        ToyHouse x = new ToyHouse();
        x.kind(0, 100, 0, 0, 9);
        for (int t = 0; t < 3; t++) {
            x.toy(0, t);
            x.family(t, 0, 0);
            x.waits(t, 0);
        }
        Dues.rules(x, "a(t<2|y=0);a(!t=0|y=0)");
        due("toys 0 and 2 only to family 0, toy 1 to all", x.van(0, 6, 0), 3);
        due("two find one", x.van(0, 6, 1), 2);
        x.gift(0, 1, 0);
        due("toy 0 to nobody then", x.van(0, 6, 0), 6);
        x.recall(0, 2, 2);
        due("toy 2 recalled", x.van(0, 6, 0), 2);
        x.lend(1, 2);
        due("toy 1 lent", x.van(0, 6, 1), 0);
    }

    private static void minutesAndMending() {
        ToyHouse x = new ToyHouse();
        due("minutes -1", x.minutes(-1, 0), false);
        due("minutes 6", x.minutes(6, 0), false);
        due("minutes of -1", x.minutes(0, -1), false);
        due("minutes of 601", x.minutes(0, 601), false);
        due("minutes of 600", x.minutes(0, 600), true);
        due("minutes of 0", x.minutes(5, 0), true);
        x = small();
        due("mending -1", x.mending(-1, 0), -1);
        due("mending 6001", x.mending(6001, 0), -1);
        due("mending what 3", x.mending(0, 3), -1);
        due("mending what -1", x.mending(0, -1), -1);
        due("all are whole", x.mending(6000, 0), 0);
        lendAndBack(x, 0, 0, 1, 0, 0);
        lendAndBack(x, 1, 0, 1, 0, 1);
        lendAndBack(x, 2, 0, 2, 0, 0);
        due("ten a piece", x.mending(6000, 1), 40);
        due("all", x.mending(6000, 0), 7);
        due("one each", x.mending(6000, 2), 3);
        due("of like ones the least set", x.mending(10, 0), 2);
        due("two of one piece each", x.mending(39, 0), 6);
        due("their minutes", x.mending(39, 1), 20);
        due("too few", x.mending(9, 0), 0);
        due("too few", x.mending(9, 2), 0);
        x.minutes(2, 3);
        due("of fewest minutes", x.mending(12, 0), 4);
        due("its minutes", x.mending(12, 1), 3);
        due("two of fewest minutes", x.mending(16, 0), 6);
        due("their minutes", x.mending(16, 1), 13);
        x.kind(0, 1, 0, 0, 9);
        x.pieces(1, 5, 3, 1);
        x.toy(1, 0);
        lendAndBack(x, 3, 0, 0, 0, 0, 0, 0, 1);
        due("two pieces of it", x.mending(26, 1), 26);
        x.waits(0, 1);
        x.waits(1, 1);
        due("who waits counts", x.mending(20, 0), 8);
        due("who waits counts", x.mending(20, 2), 3);
        due("together", x.mending(23, 2), 4);
        x.minutes(5, 0);
        due("no minutes", x.mending(0, 0), 8);
        x.recall(0, 0, 99);
        due("a recalled one may be mended", x.mending(0, 0), 8);
        x.lend(2, 0);
        due("a lent one may not", x.mending(12, 0), 10);
        x.cull(3);
        due("a culled one may not", x.mending(12, 0), 2);
        leastSetOfMending();
    }

    /** Toys 0 and 3 take as long and count for as much as toys 1 and 2: as a set of bits, 6 is below 9. */
    private static void leastSetOfMending() {
        ToyHouse x = new ToyHouse();
        for (int f = 0; f < 3; f++) {
            x.family(0, 0, 0);
        }
        for (int k = 0; k < 4; k++) {
            x.kind(0, 1, 0, 0, 9);
            x.pieces(k, 0, 4, 1);
            x.toy(k, 0);
            lendAndBack(x, k, 0, 3 - k);
            for (int f = 0; f < k; f++) {
                x.waits(f, k);
            }
        }
        due("set", x.mending(50, 0), 6);
        due("minutes", x.mending(50, 1), 50);
        due("counts for", x.mending(50, 2), 5);
        x.minutes(0, 1);
        due("more minutes", x.mending(10, 0), 15);
    }

    private static void mend() {
        ToyHouse x = small();
        due("mend no toy", x.mend(3), -1);
        due("mend toy -1", x.mend(-1), -1);
        due("mend a whole one", x.mend(0), -1);
        lendAndBack(x, 0, 0, 0, 0, 0);
        due("mend", x.mend(0), 3);
        due("whole again", x.toyIs(0, 7), 0);
        due("sort 0", x.toyIs(0, 10), 2);
        due("sort 2", x.toyIs(0, 12), 1);
        due("mend again", x.mend(0), -1);
        lendAndBack(x, 0, 0, 0, 0, 0);
        x.lend(0, 0);
        due("mend a lent one", x.mend(0), -1);
        Dues.back(x, 0);
        x.cull(0);
        due("mend a culled one", x.mend(0), -1);
        due("mended ones have their own pieces", x.toyIs(1, 10), 2);
    }

    private static void rota() {
        ToyHouse x = small();
        x.kind(0, 1, 0, 0, 9);
        x.toy(1, 0);
        x.toy(1, 0);
        Dues.rules(x, "w(!t=2)");
        for (int t = 0; t < 5; t++) {
            lendAndBack(x, t, 0, t < 3 ? new int[] {2, 0, 1} : new int[0]);
        }
        x.now(4);
        due("rota 0 a day", x.rota(0, 0), -1);
        due("rota 10 a day", x.rota(10, 0), -1);
        due("rota of no toy", x.rota(1, 5), -1);
        due("rota of toy -1", x.rota(1, -1), -1);
        due("need not be", x.rota(1, 2), -1);
        int[] want = {4, 5, -1, 6, 7};
        for (int t = 0; t < 5; t++) {
            due("one a day, toy " + t, x.rota(1, t), want[t]);
        }
        due("two a day, the second", x.rota(2, 1), 4);
        due("two a day, the third", x.rota(2, 3), 5);
        due("nine a day", x.rota(9, 4), 4);
        x.waits(1, 1);
        due("who waits first", x.rota(1, 3), 4);
        due("who waits first", x.rota(1, 4), 5);
        due("then the others", x.rota(1, 0), 6);
        x.wash(3);
        due("washed", x.rota(1, 3), -1);
        due("one fewer", x.rota(1, 4), 4);
        x.cull(4);
        due("culled", x.rota(1, 4), -1);
        due("one fewer", x.rota(1, 0), 4);
        x.now(699);
        due("behind the last day", x.rota(1, 1), 700);
    }

    private static void recall() {
        ToyHouse x = small();
        int[][] wrong = {{-1, 0, 0}, {6, 0, 0}, {0, -1, 0}, {0, 0, 100}, {0, 5, 4}, {0, 100, 100}, {0, 0, -1}};
        for (int[] w : wrong) {
            due("recall " + java.util.Arrays.toString(w), x.recall(w[0], w[1], w[2]), -1);
        }
        due("none came of it", x.count(6), 0);
        due("recall of another maker", x.recall(0, 0, 99), 0);
        due("not of it", x.toyIs(0, 6), 0);
        due("recall", x.recall(1, 6, 7), 1);
        due("below", x.toyIs(0, 6), 0);
        due("from", x.toyIs(1, 6), 1);
        due("to", x.toyIs(2, 6), 1);
        for (int r = 2; r < 10; r++) {
            due("recall " + r, x.recall(5, 99, 99), r);
        }
        due("an eleventh", x.recall(0, 0, 0), -1);
        due("recalls", x.count(6), 10);
    }

    private static void toldAndRecalled() {
        ToyHouse x = small();
        x.family(0, 0, 0);
        due("told of no recall", x.told(0, 0), false);
        due("recalled of none", x.recalled(0, 0), -1);
        x.lend(0, 0);
        x.lend(1, 1);
        x.lend(2, 2);
        x.now(10);
        Dues.back(x, 2, 2, 0, 1);
        x.recall(1, 0, 99);
        due("toys", x.recalled(0, 0), 7);
        due("families then", x.recalled(0, 1), 3);
        due("in time", x.recalled(0, 2), 0);
        due("open", x.recalled(0, 3), 3);
        due("recalled what 4", x.recalled(0, 4), -1);
        due("recalled what -1", x.recalled(0, -1), -1);
        due("recalled -1", x.recalled(-1, 0), -1);
        due("recalled 1", x.recalled(1, 0), -1);
        due("told 1", x.told(1, 0), false);
        due("told -1", x.told(-1, 0), false);
        due("told of no family", x.told(0, 3), false);
        due("told of family -1", x.told(0, -1), false);
        x.now(11);
        due("told on the day behind", x.told(0, 0), true);
        due("told again", x.told(0, 0), false);
        due("one who had none", x.told(0, 2), true);
        due("in time", x.recalled(0, 2), 1);
        due("open", x.recalled(0, 3), 2);
        x.now(12);
        due("told too late", x.told(0, 1), true);
        due("in time", x.recalled(0, 2), 1);
        due("open", x.recalled(0, 3), 0);
        due("another recall", x.recall(1, 6, 6), 1);
        due("its families", x.recalled(1, 1), 2);
        due("not told of this one", x.recalled(1, 3), 2);
        Dues.back(x, 1, 2, 0, 1);
        due("has it no more", x.recalled(1, 3), 0);
        due("had it then", x.recalled(1, 1), 2);
        x.toy(0, 6);
        due("told later, too", x.recalled(1, 0), 10);
        x.cull(3);
        due("culled ones, too", x.recalled(1, 0), 10);
    }

    private static void gift() {
        ToyHouse x = small();
        int[][] wrong = {{3, 0, 0}, {-1, 0, 0}, {0, -1, 0}, {0, 4, 0}, {0, 0, -1}, {0, 0, 5}, {0, 1, -1}, {0, 1, 2},
            {0, 2, -1}, {0, 2, 700}, {0, 3, -1}, {0, 3, 10}};
        for (int[] w : wrong) {
            due("gift " + java.util.Arrays.toString(w), x.gift(w[0], w[1], w[2]), false);
        }
        due("none came of it", x.count(7), 0);
        due("only to village 3", x.gift(0, 0, 3), true);
        due("not village 0", x.not(0, 0), 5);
        due("village 3", x.not(0, 1), 0);
        due("another toy", x.not(1, 0), 0);
        due("not behind day 4", x.gift(0, 2, 4), true);
        x.now(4);
        due("on day 4", x.not(0, 1), 0);
        x.now(5);
        due("behind day 4", x.not(0, 1), 5);
        due("not to family 1", x.gift(1, 1, 1), true);
        due("family 0", x.not(1, 0), 0);
        due("family 1", x.not(1, 1), 5);
        due("only to need 6", x.gift(2, 3, 6), true);
        due("need 2", x.not(2, 0), 5);
        due("need 6", x.not(2, 1), 0);
        due("need 7", x.gift(2, 3, 7) && x.not(2, 1) == 5, true);
        due("gifts", x.count(7), 5);
        for (int i = 5; i < 20; i++) {
            due("gift " + i, x.gift(1, 2, 699), true);
        }
        due("a 21st", x.gift(0, 2, 699), false);
        due("gifts", x.count(7), 20);
    }

    private static void owesAndPays() {
        ToyHouse x = small();
        due("owes of no family", x.owes(2), -1);
        due("owes of family -1", x.owes(-1), -1);
        due("owes nothing", x.owes(0), 0);
        due("pays nothing", x.pays(0, 0), -1);
        due("pays what it does not owe", x.pays(0, 1), -1);
        Dues.rules(x, "f50(1=1)");
        lendAndBack(x, 0, 0, 2, 0, 1);
        lendAndBack(x, 0, 0, 2, 0, 1);
        due("owes", x.owes(0), 100);
        due("the other owes nothing", x.owes(1), 0);
        due("pays of no family", x.pays(2, 1), -1);
        due("pays of family -1", x.pays(-1, 1), -1);
        due("pays too much", x.pays(0, 101), -1);
        due("pays less than nothing", x.pays(0, -1), -1);
        due("pays 0", x.pays(0, 0), -1);
        due("pays some", x.pays(0, 1), 99);
        due("owes", x.owes(0), 99);
        due("pays all", x.pays(0, 99), 0);
        due("owes nothing", x.owes(0), 0);
    }

    private static void forgivingIs(ToyHouse x, int... want) {
        for (int what = 0; what < 4; what++) {
            due("forgiving " + what, x.forgiving(what), want[what]);
        }
    }

    private static void forgiving() {
        ToyHouse x = small();
        due("forgiving 4", x.forgiving(4), -1);
        due("forgiving -1", x.forgiving(-1), -1);
        forgivingIs(x, 0, 0, 0, 0);
        Dues.rules(x, "d1(1=1);f10(!t=2);o(t=0)");
        lendAndBack(x, 0, 0, 2, 0, 1);
        forgivingIs(x, 0, 0, 0, 0);
        lendAndBack(x, 1, 1, 2, 0, 1);
        forgivingIs(x, 0, 0, 0, 0);
        x.lend(2, 0);
        x.now(1);
        Dues.back(x, 2, 2, 0, 1);
        forgivingIs(x, 1, 0, 0, 0);
        lendAndBack(x, 2, 0, 2, 0, 1);
        forgivingIs(x, 1, 0, 0, 0);
        x.lend(0, 1);
        x.now(3);
        Dues.back(x, 0, 2, 0, 1);
        forgivingIs(x, 1, 0, 1, 1);
        x.lend(2, 1);
        x.now(5);
        Dues.back(x, 2, 2, 0, 1);
        forgivingIs(x, 2, 1, 1, 1);
        lendAndBack(x, 1, 0, 2, 0, 1);
        x.lend(0, 0);
        x.lost(0);
        forgivingIs(x, 2, 1, 1, 1);
        lendAndBack(x, 2, 0, 2, 0, 1);
        forgivingIs(x, 2, 1, 2, 1);
    }

    private static void peakIs(ToyHouse x, int week, int many) {
        due("peak 0", x.peak(0), week);
        due("peak 1", x.peak(1), many);
    }

    private static void peak() {
        ToyHouse x = small();
        due("peak 2", x.peak(2), -1);
        due("peak -1", x.peak(-1), -1);
        x.now(21);
        x.waits(0, 0);
        peakIs(x, 1, 1);
        x.waits(0, 0);
        peakIs(x, 1, 1);
        x.now(27);
        x.waits(1, 0);
        peakIs(x, 1, 2);
        x.now(35);
        x.leaves(1, 0);
        x.waits(1, 0);
        peakIs(x, 3, 3);
        x.now(363);
        x.leaves(0, 0);
        x.leaves(1, 0);
        x.waits(0, 0);
        x.waits(1, 0);
        peakIs(x, 3, 3);
        x.now(364);
        x.leaves(0, 0);
        x.waits(0, 0);
        peakIs(x, 3, 3);
        x.now(365);
        x.leaves(0, 0);
        x.waits(0, 0);
        peakIs(x, 51, 4);
        x.now(365 + 7);
        x.leaves(0, 0);
        x.waits(0, 0);
        peakIs(x, 51, 4);
        x.now(365 + 13);
        x.leaves(0, 0);
        x.waits(0, 0);
        x.leaves(0, 0);
        x.waits(0, 0);
        peakIs(x, 1, 5); // from 52 on, too
    }

    private static void unwantedAndWhy() {
        ToyHouse x = new ToyHouse();
        x.kind(5, 1, 6, 0, 2);
        x.pieces(0, 0, 1, 1);
        x.kind(5, 1, 7, 1, 9);
        x.toy(0, 0);
        x.now(10);
        x.toy(1, 1);
        due("unwanted 0", x.unwanted(0), -1);
        due("unwanted 701", x.unwanted(701), -1);
        due("why of no toy", x.why(2, 1), -1);
        due("why of toy -1", x.why(-1, 1), -1);
        due("why 0", x.why(0, 0), -1);
        due("why 701", x.why(0, 701), -1);
        due("unwanted for 10", x.unwanted(10), 1);
        due("unwanted for 11", x.unwanted(11), 0);
        due("unwanted for 700", x.unwanted(700), 0);
        due("nobody asks, no family", x.why(0, 10), 8);
        due("not so long", x.why(0, 11), 0);
        due("came today", x.why(1, 1), 0);
        x.now(11);
        due("both", x.unwanted(1), 3);
        due("noise 7", x.why(1, 1), 5);
        x.family(4, 0, 0);
        due("too old for all", x.why(0, 1), 6);
        x.family(5, 0, 1);
        due("not for all", x.why(0, 1), 8);
        x.gift(0, 0, 0);
        due("the only other one is barred", x.not(0, 1), 5);
        due("not barred for all", x.why(0, 1), 8);
        x.gift(0, 1, 0);
        due("barred for all", x.why(0, 1), 7);
        x.waits(0, 0);
        due("who waits wants it", x.why(0, 1), 0);
        due("who waits wants it", x.unwanted(1), 2);
        x.leaves(0, 0);
        due("not any more", x.unwanted(1), 3);
        whyOfWorn();
    }

    private static void whyOfWorn() {
        ToyHouse x = new ToyHouse();
        x.kind(0, 1, 0, 0, 1);
        x.toy(0, 0);
        x.family(0, 0, 0);
        x.gift(0, 2, 3);
        x.now(3);
        due("not barred yet", x.why(0, 1), 8);
        x.now(4);
        due("barred for the only one", x.why(0, 1), 7);
        x = new ToyHouse();
        x.kind(5, 1, 9, 0, 3);
        x.pieces(0, 0, 1, 1);
        x.toy(0, 0);
        x.family(4, 0, 0);
        x.lend(0, 0);
        x.now(3);
        due("lent", x.why(0, 1), 0);
        Dues.rules(x, "w(1=1)");
        Dues.back(x, 0);
        due("came back today", x.why(0, 1), 0);
        x.now(4);
        due("to be washed", x.why(0, 1), 2);
        x.recall(0, 0, 0);
        due("recalled", x.why(0, 1), 1);
        x = new ToyHouse();
        x.kind(5, 1, 9, 0, 3);
        x.pieces(0, 0, 1, 1);
        x.toy(0, 0);
        x.family(4, 0, 0);
        x.lend(0, 0);
        x.now(3);
        Dues.back(x, 0);
        x.now(4);
        due("lacks something", x.why(0, 1), 3);
        x.mend(0);
        due("worn", x.why(0, 1), 4);
        due("in the house since it came back", x.why(0, 2), 0);
        x.cull(0);
        due("culled", x.why(0, 1), 0);
        due("culled", x.unwanted(1), 0);
    }

    private static void cull() {
        ToyHouse x = small();
        due("cull no toy", x.cull(3), false);
        due("cull toy -1", x.cull(-1), false);
        x.lend(0, 0);
        due("cull a lent one", x.cull(0), false);
        x.lost(0);
        due("cull a lost one", x.cull(0), false);
        due("cull", x.cull(1), true);
        due("culled", x.toyIs(1, 0), 3);
        due("cull again", x.cull(1), false);
        due("toys are counted still", x.count(2), 3);
    }

    private static void where() {
        ToyHouse x = small();
        due("where of no toy", x.where(3, 0, 0), -1);
        due("where of toy -1", x.where(-1, 0, 0), -1);
        due("where on day -1", x.where(0, -1, 0), -1);
        due("where on a day to come", x.where(0, 1, 1), -1);
        x.now(10);
        due("known before", x.where(0, 5, 4), -1);
        due("known on 700", x.where(0, 5, 700), -1);
        due("known on 699", x.where(0, 5, 699), 0);
        x.telling(3);
        x.lend(0, 1);
        x.telling(0);
        x.now(12);
        Dues.back(x, 0, 2, 0, 1);
        due("before the act", x.where(0, 9, 699), 0);
        due("not known yet", x.where(0, 10, 12), 0);
        due("known then", x.where(0, 10, 13), 2);
        due("back, known sooner", x.where(0, 12, 12), 0);
        due("back", x.where(0, 12, 699), 0);
        due("the day before it came back", x.where(0, 11, 699), 2);
        x.telling(5);
        x.lend(0, 0);
        due("told later", x.where(0, 12, 16), 0);
        due("the latest of a day", x.where(0, 12, 17), 1);
        x.telling(30);
        x.now(20);
        x.lost(0);
        due("not known to be lost", x.where(0, 20, 49), 1);
        due("lost", x.where(0, 20, 50), 20);
        due("lent still on the day before", x.where(0, 19, 50), 1);
        due("other toys", x.where(1, 20, 50), 0);
        x.telling(0);
        lendAndBack(x, 1, 0, 2, 0, 1);
        x.cull(1);
        due("culled: as it came last", x.where(1, 20, 20), 0);
    }

    private static void check() {
        ToyHouse x = small();
        due("check no toy", Dues.check(x, 3, 0), -2);
        due("check toy -1", x.check(-1, 0), -2);
        x.feed(0, 2, 2, 1, 0);
        due("more than it has", x.check(0, 3), -2);
        due("check -1", x.check(0, -1), -2);
        due("check MAX", x.check(0, MAX), -2);
        due("check 1 << 29", x.check(0, 1 << 29), -2);
        due("the tape stays", x.count(5), 20);
        due("right", x.check(0, 2), -1);
        due("the tape is empty then", x.count(5), 0);
        due("nothing told", Dues.check(x, 0, 0, 1), 0);
        due("the tape is empty then", x.count(5), 0);
        due("not a sort", Dues.check(x, 0, 2, 1, 2, 2, 1), 0);
        due("not so many", Dues.check(x, 0, 2, 0, 3, 2, 1), 1);
        due("not the next sort", Dues.check(x, 0, 2, 0, 2, 1, 0), 2);
        due("not so many of it", Dues.check(x, 0, 2, 0, 2, 2, 0), 3);
        due("some are lacking", Dues.check(x, 0, 1, 0, 2), 2);
        due("one too much", Dues.check(x, 0, 3, 0, 2, 2, 1, 3, 0), 4);
        due("four bytes each", Dues.check(x, 0, 2, 0, 0x102, 2, 1), 1);
        due("the highest byte", Dues.check(x, 0, 2, 1 << 24, 2, 2, 1), 0);
        due("the highest bits", Dues.check(x, 0, 2, 0, 0xE0000002, 2, 1), 1);
        due("less than nothing", Dues.check(x, 0, 2, 0, 2, 2, -1), 3);
        lendAndBack(x, 0, 0, 1);
        due("what it has", Dues.check(x, 0, 2, 0, 1, 2, 0), -1);
        x.kind(0, 1, 0, 0, 1);
        x.toy(1, 0);
        due("no pieces, nothing told", x.check(3, 0), -1);
        due("no pieces", Dues.check(x, 3, 1, 0, 0), 0);
        for (int i = 0; i < 11; i++) {
            x.feed(0, 0, 0, 0, 0);
        }
        due("28 twos are 224 bytes", x.check(0, 28), -2);
        due("27 twos", x.check(0, 27), 1);
    }

    private static void count() {
        ToyHouse x = small();
        int[] wrong = {-1, 9, 11, 18, 19, 22, 30, 31, MIN, MAX};
        for (int what : wrong) {
            due("count " + what, x.count(what), -1);
        }
        x.now(3);
        x.feed(0, 0, 0, 0, 0);
        x.recall(0, 0, 0);
        x.gift(0, 3, 0);
        x.lend(0, 0);
        x.lend(1, 0);
        x.lend(2, 1);
        x.lost(2);
        x.waits(0, 0);
        int[] want = {3, 1, 3, 2, 0, 20, 1, 1, 4};
        for (int what = 0; what < want.length; what++) {
            due("count " + what, x.count(what), want[what]);
        }
        due("who waits", x.count(10), 1);
        due("family 0 has two", x.count(20), 2);
        due("family 1 has none", x.count(21), 0);
    }

    /** As many kinds, toys and families as can be: the last of each counts as the first. */
    private static void fullHouse() {
        ToyHouse x = new ToyHouse();
        for (int k = 0; k < 8; k++) {
            x.kind(0, 100 + k, 0, k % 2, 99);
            x.pieces(k, 5, 2, 7);
        }
        for (int t = 0; t < 16; t++) {
            x.toy(t / 2, t);
        }
        for (int f = 0; f < 10; f++) {
            x.family(f, 0, 4);
        }
        for (int t = 0; t < 16; t++) {
            x.lend(t, 9);
        }
        due("family 9 has all", x.count(29), 16);
        x.recall(1, 15, 15);
        due("toy 15", x.recalled(0, 0), 1 << 15);
        due("family 9", x.recalled(0, 3), 1 << 9);
        due("family 9 is told", x.told(0, 9), true);
        due("once", x.told(0, 9), false);
        due("in time", x.recalled(0, 2), 1);
        due("nobody open", x.recalled(0, 3), 0);
        for (int t = 0; t < 16; t++) {
            Dues.back(x, t, 0, 0, 0, 0, 0, 1);
        }
        due("all may be mended", x.mending(6000, 0), 65535);
        due("all their minutes", x.mending(160, 1), 160);
        due("all but the last", x.mending(159, 0), 32767);
        due("family 9 waits for kind 7", x.waits(9, 7), true);
        due("once", x.waits(9, 7), false);
        due("one waits", x.count(17), 1);
        due("who comes next", x.next(7, 0), 9);
        due("the last ones first", x.mending(20, 0), 3 << 14);
        due("a van with toy 14", x.van(4, 6, 0), 1 << 14);
        due("bought of kind 7", x.buying(60000, 1, 7), 2);
        due("its coin", x.buying(60000, 1, 8), 214);
        due("two of toys 14 and 15 whole in part", x.whole(7, 2), 0);
        due("toys 0 and 1 make one", x.whole(0, 2), 1);
        for (int f = 0; f < 9; f++) {
            for (int k = 0; k < 8; k++) {
                x.waits(f, k);
            }
        }
        due("three of each", x.buying(60000, 3, -1), 24);
        due("their coin", x.buying(60000, 3, 8), 3 * 828);
        due("the cheapest", x.buying(100, 3, 0), 1);
        due("a full van", x.van(4, 6, 0), 63);
        due("six families", x.van(4, 6, 1), 6);
        due("leaves kind 7", x.leaves(9, 7), true);
        due("leaves once", x.leaves(9, 7), false);
    }
}
