import java.io.IOException;

/** The boundaries that Term 4 names: who waits, buying, the van, mending, the rota. */
public final class WaitingBoundsTest extends Sentences {
    public static void main(String[] args) throws IOException, ReflectiveOperationException {
        runAll(WaitingBoundsTest.class, "Term 4");
    }

    // ---- waiting

    static void onceEach() {
        of("Term 4", "WAITING: a FAMILY for a KIND from NOW on (once each)");
        ToyHouse x = house(2, 0, 2);
        x.now(5);
        due("waits", x.waits(0, 0), true);
        x.now(8);
        due("waits once", x.waits(0, 0), false);
        due("for another kind", x.waits(0, 1), true);
        due("another family", x.waits(1, 0), true);
        due("two wait for kind 0", x.count(10), 2);
        rules(x, "nq(1=1)");
        due("from the first time on", x.next(0, 1), 3);
        due("for kind 1 from now on", x.next(1, 1), 0);
        x.leaves(0, 0);
        due("who left may wait again", x.waits(0, 0), true);
        due("from now on", x.next(0, 1), 0);
    }

    static void greatestTurn() {
        of("Term 4", "the greatest TURN");
        ToyHouse x = house(1, 0, 3);
        for (int f = 0; f < 3; f++) {
            x.waits(f, 0);
        }
        rules(x, "ne(1=1)");
        due("the last", x.next(0, 0), 2);
        due("its turn", x.next(0, 1), 2);
        rules(x, "n0-e(1=1)");
        due("0 is above what is below 0", x.next(0, 0), 0);
        rules(x, "n[0-99999-1]*[2-e](1=1)");
        due("0 of family 2", x.next(0, 0), 2);
        rules(x, "n0-99999-1+e(1=1)");
        due("all below 0", x.next(0, 0), 2);
        due("its turn", x.next(0, 1), -99998);
        rules(x, "n0-99999-9(1=1)");
        due("all at the least", x.next(0, 0), 0);
        due("the least turn", x.next(0, 1), -100000);
    }

    static void likeTurns() {
        of("Term 4", "of like ones who waits longest, then the lowest");
        ToyHouse x = house(1, 0, 3);
        x.now(2);
        x.waits(2, 0);
        due("alone", x.next(0, 0), 2);
        x.now(3);
        x.waits(1, 0);
        due("a day longer", x.next(0, 0), 2);
        x.waits(0, 0);
        due("a day longer than both", x.next(0, 0), 2);
        x.leaves(2, 0);
        due("the lowest of those of a day", x.next(0, 0), 0);
        x.leaves(0, 0);
        x.now(4);
        x.waits(0, 0);
        due("longer before lower", x.next(0, 0), 1);
        rules(x, "n1(y=0)");
        due("a greater turn before longer", x.next(0, 0), 0);
        x = house(1, 0, 2);
        x.waits(0, 0);
        x.now(1);
        x.waits(1, 0);
        due("longer and lower", x.next(0, 0), 0);
    }

    // ---- buying

    /** Kinds of price 100, for each of which six families wait. */
    private static ToyHouse wanting(int kinds) {
        ToyHouse x = house(kinds, 0, 6);
        for (int k = 0; k < kinds; k++) {
            for (int f = 0; f < 6; f++) {
                x.waits(f, k);
            }
        }
        return x;
    }

    static void coin() {
        of("Term 4", "THE BUYING with so much coin (0 to 60000)");
        bounds("coin", 0, 60000, coin -> wanting(1).buying(coin, 1, 8) >= 0);
        due("99 for one of 100", wanting(1).buying(99, 3, 0), 0);
        due("100 for one of 100", wanting(1).buying(100, 3, 0), 1);
        due("199 for two of 100", wanting(1).buying(199, 3, 0), 1);
        due("200 for two of 100", wanting(1).buying(200, 3, 0), 2);
        due("nothing for nothing", wanting(1).buying(0, 99, 0), 0);
        ToyHouse x = new ToyHouse();
        x.kind(0, 20000, 0, 0, 9);
        for (int f = 0; f < 3; f++) {
            x.family(0, 0, 0);
            x.waits(f, 0);
        }
        due("three for all the coin", x.buying(60000, 3, 0), 3);
        due("its coin", x.buying(60000, 3, 8), 60000);
        due("two for a penny less", x.buying(59999, 3, 0), 2);
    }

    static void weeks() {
        of("Term 4", "for W weeks (1 to 99)");
        bounds("weeks", 1, 99, weeks -> wanting(1).buying(100, weeks, 8) >= 0);
        due("1: three for one", wanting(1).buying(300, 1, -1), 1);
        due("1: two for none", wanting(1).buying(200, 1, -1), 0);
        due("99: one for all six", wanting(1).buying(300, 99, -1), 6);
        due("99: one is enough", wanting(1).buying(300, 99, 0), 1);
    }

    static void threeMore() {
        of("Term 4", "of each KIND 0 to 3 more");
        due("three", wanting(2).buying(60000, 3, 0), 3);
        due("three of the other, too", wanting(2).buying(60000, 3, 1), 3);
        due("served", wanting(2).buying(60000, 3, -1), 6);
        ToyHouse x = wanting(8);
        for (int k = 0; k <= 7; k++) {
            due("three of kind " + k, x.buying(60000, 3, k), 3);
        }
        due("for all kinds", x.buying(60000, 3, 8), 2400);
        due("none for kind 0", wanting(1).buying(0, 3, 0), 0);
    }

    static void servedToys() {
        of("Term 4", "as many as its TOYS (neither LOST, CULLED nor RECALLED) and the new ones");
        ToyHouse x = wanting(1);
        due("three new ones for one", x.buying(300, 1, 0), 3);
        x.toy(0, 0);
        due("one there, two new ones", x.buying(300, 1, 0), 2);
        x.toy(0, 1);
        due("two there, a new one", x.buying(300, 1, 0), 1);
        x.lend(0, 0);
        due("a lent one is there", x.buying(300, 1, 0), 1);
        x.lost(0);
        due("a lost one is not", x.buying(300, 1, 0), 2);
        x.recall(0, 1, 1);
        due("a recalled one is not", x.buying(300, 1, 0), 3);
        x.toy(0, 50);
        due("another one is there", x.buying(300, 1, 0), 2);
        x.cull(2);
        due("a culled one is not", x.buying(300, 1, 0), 3);
    }

    static void roundedDown() {
        of("Term 4", "times W through 3 (rounded down): at most all");
        // with 2 weeks 1, 2, 3 new ones serve 0, 1, 2; with 4 weeks 1, 2, 4; with 5 weeks 1, 3, 5
        int[][] served = {{1, 0, 0, 1}, {2, 0, 1, 2}, {3, 1, 2, 3}, {4, 1, 2, 4}, {5, 1, 3, 5}, {6, 2, 4, 6},
            {7, 2, 4, 6}, {8, 2, 5, 6}, {9, 3, 6, 6}, {17, 5, 6, 6}, {18, 6, 6, 6}, {99, 6, 6, 6}};
        for (int[] row : served) {
            for (int n = 1; n <= 3; n++) {
                due(row[0] + " weeks, " + n + " new ones", wanting(1).buying(100 * n, row[0], -1), row[n]);
            }
        }
        due("nobody waits", house(1, 0, 6).buying(60000, 99, -1), 0);
        ToyHouse x = wanting(1);
        x.toy(0, 0);
        due("more than now: one there serves 1 of 3 weeks", x.buying(60000, 3, -1), 3);
        due("more than now: one there serves all in 18 weeks", x.buying(60000, 18, -1), 0);
        due("none is bought then", x.buying(60000, 18, 8), 0);
        due("more than now: one there serves five in 17 weeks", x.buying(60000, 17, -1), 1);
    }

    static void mostServed() {
        of("Term 4", "Of most SERVED together; of like ones of least coin; of like ones the least row.");
        ToyHouse x = new ToyHouse();
        x.kind(0, 100, 0, 0, 9);
        x.kind(0, 99, 0, 0, 9);
        x.kind(0, 199, 0, 0, 9);
        x.family(0, 0, 0);
        x.family(0, 0, 0);
        x.waits(0, 0);
        x.waits(0, 1);
        x.waits(0, 2);
        x.waits(1, 2);
        due("of least coin: kind 1", x.buying(100, 3, 1), 1);
        due("its coin", x.buying(100, 3, 8), 99);
        due("most served: kinds 0 and 1", x.buying(199, 3, 8), 199);
        due("not kind 2, of as much coin", x.buying(199, 3, 2), 0);
        due("kind 0", x.buying(199, 3, 0), 1);
        due("served", x.buying(199, 3, -1), 2);
        due("a penny less", x.buying(198, 3, -1), 1);
        due("in 6 weeks kind 2 serves as many", x.buying(199, 6, -1), 2);
        due("of like ones the least row: kind 2 alone", x.buying(199, 6, 2), 1);
        due("of like ones the least row: none of kind 0", x.buying(199, 6, 0), 0);
        ToyHouse y = new ToyHouse();
        y.kind(0, 99, 0, 0, 9);
        y.kind(0, 100, 0, 0, 9);
        y.family(0, 0, 0);
        y.waits(0, 0);
        y.waits(0, 1);
        due("of least coin before the least row: kind 0", y.buying(100, 3, 0), 1);
        due("of least coin before the least row: not kind 1", y.buying(100, 3, 1), 0);
        due("of two like kinds the last", wanting(2).buying(100, 3, 0), 0);
        due("of two like kinds the last", wanting(2).buying(100, 3, 1), 1);
        due("of two like kinds two of the last", wanting(2).buying(200, 3, 1), 2);
        due("then one of the first", wanting(2).buying(400, 3, 0), 1);
    }

    // ---- the van

    /** Families of village 0 that wait for kind 0, of which so many toys are there. */
    private static ToyHouse village(int toys, int families) {
        ToyHouse x = house(1, toys, families);
        for (int f = 0; f < families; f++) {
            x.waits(f, 0);
        }
        return x;
    }

    static void shelf() {
        of("Term 4", "of n TOYS (1 to 6) at most");
        allBounds("a shelf of", 1, 6, n -> village(16, 10).van(0, n, 1) == n);
        allBounds("the least set on a shelf of", 1, 6, n -> village(16, 10).van(0, n, 0) == (1 << n) - 1);
        due("five toys alone", village(5, 10).van(0, 6, 1), 5);
        due("five families alone", village(16, 5).van(0, 6, 0), 31);
        due("no toys", village(0, 10).van(0, 6, 1), 0);
        due("no families", village(16, 0).van(0, 6, 0), 0);
        ToyHouse x = village(16, 10);
        rules(x, "a(t=15&y=9)");
        due("the last toy to the last family", x.van(0, 1, 0), 1 << 15);
        due("the last family", x.van(0, 6, 1), 1);
        rules(x, "a(t=14|t=15&y=9)");
        due("the last two toys", x.van(0, 6, 0), 3 << 14);
    }

    static void familiesOfVillage() {
        of("Term 4", "the set by which most FAMILIES of that VILLAGE could have a TOY of it LENT");
        ToyHouse x = house(1, 3, 0);
        for (int village = 0; village <= 4; village++) {
            x.family(village, 0, village);
            x.waits(village, 0);
        }
        x.family(9, 0, 4);
        for (int village = 0; village <= 4; village++) {
            due("village " + village, x.van(village, 6, 1), 1);
        }
        x.waits(5, 0);
        due("two of village 4", x.van(4, 6, 1), 2);
        due("toys for them", x.van(4, 6, 0), 3);
        rules(x, "a(t=2)");
        due("one that may be lent", x.van(4, 6, 0), 4);
        x.gift(2, 1, 5);
        due("to one of them alone", x.van(4, 6, 1), 1);
        x.gift(2, 1, 4);
        due("to none of them", x.van(4, 6, 1), 0);
        due("to another village", x.van(3, 6, 1), 1);
        x.lend(2, 3);
        due("it is lent", x.van(0, 6, 1), 0);
    }

    static void kindsOfVan() {
        of("Term 4", "of a KIND for which they wait");
        ToyHouse x = house(2, 1, 2);
        x.toy(1, 0);
        due("nobody waits", x.van(0, 6, 0), 0);
        x.waits(0, 1);
        due("for kind 1", x.van(0, 6, 0), 2);
        x.waits(1, 0);
        due("for both", x.van(0, 6, 0), 3);
        x.leaves(0, 1);
        due("for kind 0", x.van(0, 6, 0), 1);
        x.now(5);
        x.lend(0, 1);
        back(x, 0);
        due("who had it waits no more", x.van(0, 6, 0), 0);
    }

    static void paired() {
        of("Term 4", "(each one TOY, each TOY to one: as many as can be paired)");
        ToyHouse x = village(1, 2);
        due("one toy to one", x.van(0, 6, 1), 1);
        x = village(2, 1);
        due("a family one toy", x.van(0, 6, 1), 1);
        x = village(2, 2);
        rules(x, "a(t=0|y=0)");
        due("toy 0 to family 1, toy 1 to family 0", x.van(0, 6, 1), 2);
        rules(x, "a(y=0)");
        due("both to family 0 alone", x.van(0, 6, 1), 1);
        x = village(6, 6);
        rules(x, "a(t<5&(y=t|y=t+1)|t=5&y=0)");
        due("a chain through all", x.van(0, 6, 1), 6);
        due("all toys", x.van(0, 6, 0), 63);
        rules(x, "a(t<4&(y=t|y=t+1)|t>3&y=0)");
        due("a chain through all but one", x.van(0, 6, 1), 5);
        due("all toys but the last", x.van(0, 6, 0), 31);
        x = village(16, 10);
        rules(x, "a(t<9&(y=t|y=t+1)|t=15&y=0)");
        due("six of ten on the shelf", x.van(0, 6, 1), 6);
        rules(x, "a(t>9&(y=t-10|y=t-9)|t=9&y=0)");
        due("with the last toys", x.van(0, 6, 0), 63 << 9);
    }

    static void fewestToysOfVan() {
        of("Term 4", "as many as can be paired); of like ones of fewest TOYS, then the least set");
        ToyHouse x = village(3, 1);
        due("no toy more than families", x.van(0, 6, 0), 1);
        due("n 1", x.van(0, 1, 0), 1);
        rules(x, "u(t=0)");
        due("the lowest that may be lent", x.van(0, 6, 0), 2);
        rules(x, "a(1=2)");
        due("an empty shelf", x.van(0, 6, 0), 0);
        x = village(4, 2);
        rules(x, "a(t=0&y=0|t=1&y=0|t=3&y=1)");
        due("toys 0 and 3", x.van(0, 6, 0), 9);
        rules(x, "a(t=0&y=0|t=1&y=0|t=2&y=1|t=3&y=1)");
        due("toys 0 and 2", x.van(0, 6, 0), 5);
        due("of one toy", x.van(0, 1, 0), 1);
    }

    // ---- mending

    /** Toys of kind 0, which has six pieces of sort 0, that lack so many of them. */
    private static ToyHouse broken(int... lack) {
        ToyHouse x = house(1, 0, 1);
        x.pieces(0, 0, 6, 1);
        for (int t = 0; t < lack.length; t++) {
            x.toy(0, t);
            lendAndBack(x, t, 0, 6 - lack[t]);
        }
        return x;
    }

    static void minutesOfAPiece() {
        of("Term 4", "minutes that one PIECE of a SORT takes (0 to 600; 10 at first)");
        bounds("minutes", 0, 600, n -> new ToyHouse().minutes(0, n));
        for (int sort = 0; sort <= 5; sort++) {
            ToyHouse x = house(1, 0, 1);
            x.pieces(0, sort, 2, 1);
            x.toy(0, 0);
            lendAndBack(x, 0, 0);
            due("10 at first, sort " + sort, x.mending(6000, 1), 20);
            x.minutes((sort + 1) % 6, 5);
            due("of another sort than " + sort, x.mending(6000, 1), 20);
            x.minutes(sort, 600);
            due("600 of sort " + sort, x.mending(6000, 1), 1200);
            x.minutes(sort, 0);
            due("0 of sort " + sort, x.mending(0, 1), 0);
            due("mended in no minutes", x.mending(0, 0), 1);
        }
    }

    static void allMinutes() {
        of("Term 4", "With so many minutes (0 to 6000)");
        bounds("minutes", 0, 6000, all -> broken(1).mending(all, 0) >= 0);
        ToyHouse x = broken(6, 4);
        x.minutes(0, 600);
        due("both in 6000", x.mending(6000, 0), 3);
        due("their minutes", x.mending(6000, 1), 6000);
        due("one in 5999", x.mending(5999, 0), 2);
        due("its minutes", x.mending(5999, 1), 2400);
        due("none in 0", x.mending(0, 0), 0);
        ToyHouse y = broken(1, 1, 1, 1, 1, 1, 1, 1, 1, 1, 1, 1, 1, 1, 1, 1);
        due("sixteen toys", y.mending(160, 0), 0xFFFF);
        due("all but the last", y.mending(159, 0), 0x7FFF);
        due("they count for", y.mending(160, 2), 16);
        y.minutes(0, 375);
        due("sixteen toys in 6000", y.mending(6000, 1), 6000);
        y.minutes(0, 376);
        due("fifteen toys in 6000", y.mending(6000, 1), 15 * 376);
    }

    static void notAbove() {
        of("Term 4", "whose minutes (all that lacks) together are not above");
        due("20 of 20", broken(2).mending(20, 0), 1);
        due("20 of 19", broken(2).mending(19, 0), 0);
        due("50 of 50", broken(2, 3).mending(50, 0), 3);
        due("50 of 49", broken(2, 3).mending(49, 0), 1);
        due("20 of 21", broken(2, 3).mending(21, 1), 20);
        ToyHouse x = house();
        x.minutes(0, 7);
        x.minutes(2, 30);
        lendAndBack(x, 0, 0);
        due("two of 7 and one of 30", x.mending(44, 1), 44);
        due("a minute less", x.mending(43, 0), 0);
    }

    static void thoseThatLack() {
        of("Term 4", "the set of TOYS IN THE HOUSE that lack something");
        ToyHouse x = broken(0, 1, 1, 1, 1);
        due("not the whole one", x.mending(6000, 0), 30);
        x.lend(1, 0);
        due("not the lent one", x.mending(6000, 0), 28);
        x.lost(1);
        due("not the lost one", x.mending(6000, 0), 28);
        x.cull(2);
        due("not the culled one", x.mending(6000, 0), 24);
        x.recall(0, 3, 3);
        due("the recalled one is in the house", x.mending(6000, 0), 24);
        x.mend(3);
        due("not the mended one", x.mending(6000, 0), 16);
    }

    static void mostWaiting() {
        of("Term 4", "by which those who wait for their KINDS, for each TOY and 1 more, are most together");
        ToyHouse x = house(2, 0, 10);
        x.pieces(0, 0, 6, 1);
        x.pieces(1, 0, 6, 1);
        for (int t = 0; t < 3; t++) {
            x.toy(t == 0 ? 1 : 0, 0);
            lendAndBack(x, t, 0, t == 0 ? 3 : 5);
        }
        // toy 0 takes 30 minutes, toys 1 and 2 take 10 each
        due("nobody waits: the most toys", x.mending(30, 0), 6);
        due("they count for", x.mending(30, 2), 2);
        x.waits(0, 1);
        due("one waits for kind 1: like ones, of fewest minutes", x.mending(30, 0), 6);
        due("they count for", x.mending(30, 2), 2);
        x.waits(1, 1);
        due("two wait for kind 1", x.mending(30, 0), 1);
        due("it counts for", x.mending(30, 2), 3);
        x.waits(0, 0);
        due("one waits for kind 0: for each of its toys", x.mending(30, 0), 6);
        due("they count for", x.mending(30, 2), 4);
        due("all count for", x.mending(50, 2), 7);
        due("too few for any", x.mending(9, 2), 0);
        for (int f = 0; f < 10; f++) {
            x.waits(f, 0);
        }
        due("ten wait", x.mending(10, 2), 11);
    }

    static void fewestMinutes() {
        of("Term 4", "of like ones of fewest minutes, then the least set");
        due("of fewest minutes", broken(3, 2).mending(30, 0), 2);
        due("its minutes", broken(3, 2).mending(30, 1), 20);
        due("of as many the least set", broken(2, 2).mending(30, 0), 1);
        due("two of three like ones", broken(2, 2, 2).mending(59, 0), 3);
        due("all three", broken(2, 2, 2).mending(60, 0), 7);
        due("two of fewest minutes", broken(3, 2, 2).mending(60, 0), 6);
        due("the first and the last", broken(1, 2, 3, 1).mending(30, 0), 9);
        // toys 1 and 2 take as long and count for as much as toys 0 and 3: as a set of bits 6 is below 9
        due("of two sets the least", steps().mending(50, 0), 6);
        due("its minutes", steps().mending(50, 1), 50);
        due("it counts for", steps().mending(50, 2), 5);
        due("a minute less: toys 0 and 2 are like toy 3", steps().mending(49, 0), 5);
    }

    /** Four kinds with a toy of each: toy k lacks k + 1 pieces, and k families wait for it. */
    private static ToyHouse steps() {
        ToyHouse x = house(4, 0, 3);
        for (int k = 0; k < 4; k++) {
            x.pieces(k, 0, 4, 1);
            x.toy(k, 0);
            lendAndBack(x, k, 0, 3 - k);
            for (int f = 0; f < k; f++) {
                x.waits(f, k);
            }
        }
        return x;
    }

    static void wholeAgain() {
        of("Term 4", "MENDED: a TOY is whole again");
        ToyHouse x = broken(6, 0, 1);
        due("six", x.mend(0), 6);
        due("nothing lacks", x.toyIs(0, 7), 0);
        due("six are there", x.toyIs(0, 10), 6);
        due("a whole one", x.mend(1), NONE);
        due("one", x.mend(2), 1);
        due("whole", x.mend(2), NONE);
        due("as many as it had comes back", lendAndBack(x, 0, 0, 6), 0);
    }

    // ---- the rota

    /** Ten toys of kind 0 and one of kind 1, all to be washed but for toy 3. */
    private static ToyHouse dirty() {
        ToyHouse x = house(2, 10, 2);
        x.toy(1, 0);
        rules(x, "w(!t=3)");
        for (int t = 0; t <= 10; t++) {
            lendAndBack(x, t, 0);
        }
        return x;
    }

    static void soManyADay() {
        of("Term 4", "TOYS IN THE HOUSE that must be WASHED, c (1 to 9) a DAY from NOW on");
        bounds("c", 1, 9, c -> dirty().rota(c, 0) == 0);
        ToyHouse x = dirty();
        due("one a day, the first", x.rota(1, 0), 0);
        due("one a day, the second", x.rota(1, 1), 1);
        due("one a day, the tenth", x.rota(1, 10), 9);
        due("one that need not be", x.rota(1, 3), NONE);
        due("nine a day, the ninth", x.rota(9, 9), 0);
        due("nine a day, the tenth", x.rota(9, 10), 1);
        due("five a day, the fifth", x.rota(5, 5), 0);
        due("five a day, the sixth", x.rota(5, 6), 1);
        x.now(699);
        due("from the last day on", x.rota(1, 10), 708);
        due("on the last day", x.rota(1, 0), 699);
        x.cull(0);
        due("a culled one", x.rota(1, 0), NONE);
        due("one fewer ahead", x.rota(1, 10), 707);
        x.wash(1);
        due("a washed one", x.rota(1, 1), NONE);
        due("two fewer ahead", x.rota(1, 10), 706);
    }

    static void firstOnRota() {
        of("Term 4", "first those for whose KIND most wait, of like ones those of lower numbers");
        ToyHouse x = dirty();
        due("nobody waits: the last", x.rota(1, 10), 9);
        x.waits(0, 0);
        due("one waits for kind 0: the last", x.rota(1, 10), 9);
        x.waits(0, 1);
        due("one waits for each: the last", x.rota(1, 10), 9);
        x.waits(1, 1);
        due("two wait for kind 1: the first", x.rota(1, 10), 0);
        due("behind it the lowest", x.rota(1, 0), 1);
        due("then the next", x.rota(1, 1), 2);
        due("the last then", x.rota(1, 9), 9);
        x.waits(1, 0);
        due("two wait for each: the last", x.rota(1, 10), 9);
    }
}
