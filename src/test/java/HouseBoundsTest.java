import java.io.IOException;

/** The boundaries that Term 1 names: what the house holds, how many, from what to what. */
public final class HouseBoundsTest extends Sentences {
    public static void main(String[] args) throws IOException, ReflectiveOperationException {
        runAll(HouseBoundsTest.class, "What it is", "Term 1");
    }

    static void calls() {
        of("What it is", "An object is used for at most 512 calls after it has been made");
        ToyHouse x = house();
        for (int call = 9; call <= 510; call++) {
            x.count(0);
        }
        due("call 511", x.lend(0, 0), 21);
        due("call 512, the last one", x.toyIs(0, 2), 21);
        // what later calls answer is free
    }

    static void days() {
        of("Term 1", "DAYS 0 to 699");
        bounds("now", 0, 699, day -> new ToyHouse().now(day));
        bounds("the day of a gift's term", 0, 699, day -> house().gift(0, 2, day));
        ToyHouse x = house();
        x.now(699);
        bounds("where on day", 0, 699, day -> x.where(0, day, 699) == 0);
        bounds("where as known on day", 0, 699, known -> x.where(0, 0, known) == 0);
    }

    static void nowAtFirst() {
        of("Term 1", "NOW is one of them (0 at first)");
        ToyHouse x = house();
        due("NOW", x.count(0), 0);
        due("day 0 is not to come", x.where(0, 0, 0), 0);
        due("day 1 is to come", x.where(0, 1, 1), NONE);
        due("lent on day 0", x.lend(0, 0), 21);
        due("back to day 0", x.now(0), true);
        due("to day 1", x.now(1), true);
        due("NOW then", x.count(0), 1);
        due("back to day 0 from day 1", x.now(0), false);
    }

    static void kinds() {
        of("Term 1", "KINDS 0 to 7");
        ToyHouse x = new ToyHouse();
        for (int k = 0; k <= 7; k++) {
            due("kind " + k, x.kind(0, 100, 0, 0, 100), k);
        }
        due("a ninth kind", x.kind(0, 100, 0, 0, 100), NONE);
        allBounds("toy of kind", 0, 7, k -> house(8, 0, 0).toy(k, 0) == 0);
        allBounds("pieces of kind", 0, 7, k -> house(8, 0, 0).pieces(k, 0, 1, 1));
        allBounds("waits for kind", 0, 7, k -> house(8, 0, 1).waits(0, k));
        allBounds("leaves kind", 0, 7, k -> {
            ToyHouse y = house(8, 0, 1);
            return y.waits(0, k) && y.leaves(0, k) && !y.leaves(0, k);
        });
        allBounds("whole of kind", 0, 7, k -> house(8, 0, 0).whole(k, 0) == 0);
        allBounds("how many wait for kind", 0, 7, k -> house(8, 0, 0).next(k, 2) == 0);
    }

    static void ages() {
        of("Term 1", "an AGE (0 to 15) from which on");
        bounds("age", 0, 15, age -> new ToyHouse().kind(age, 100, 0, 0, 100) == 0);
        due("a kind from 15 on, a child of 15", whyOfAge(15, 15), 8);
        due("a kind from 15 on, a child of 14", whyOfAge(15, 14), 6);
        due("a kind from 0 on, a child of 0", whyOfAge(0, 0), 8);
        due("a kind from 1 on, a child of 0", whyOfAge(1, 0), 6);
    }

    private static int whyOfAge(int age, int youngest) {
        ToyHouse x = new ToyHouse();
        x.kind(age, 100, 0, 0, 100);
        x.toy(0, 0);
        x.family(youngest, 0, 0);
        x.now(1);
        return x.why(0, 1);
    }

    static void prices() {
        of("Term 1", "a PRICE in pence (1 to 20000)");
        bounds("price", 1, 20000, price -> new ToyHouse().kind(0, price, 0, 0, 100) == 0);
        due("one of price 1 for 1", boughtOf(1, 1), 1);
        due("one of price 1 for 0", boughtOf(1, 0), 0);
        due("one of price 20000 for 20000", boughtOf(20000, 20000), 1);
        due("one of price 20000 for 19999", boughtOf(20000, 19999), 0);
    }

    private static int boughtOf(int price, int coin) {
        ToyHouse x = new ToyHouse();
        x.kind(0, price, 0, 0, 100);
        x.family(0, 0, 0);
        x.waits(0, 0);
        return x.buying(coin, 3, 0);
    }

    static void noise() {
        of("Term 1", "NOISE (0 to 9)");
        bounds("noise", 0, 9, noise -> new ToyHouse().kind(0, 100, noise, 0, 100) == 0);
        ToyHouse x = new ToyHouse();
        x.kind(0, 100, 9, 0, 100);
        x.kind(0, 100, 0, 0, 100);
        x.toy(0, 0);
        x.toy(1, 0);
        x.family(0, 0, 0);
        rules(x, "a(z=9)");
        due("noise 9 in the rules", x.not(0, 0), 0);
        due("noise 0 in the rules", x.not(1, 0), 6);
    }

    static void makers() {
        of("Term 1", "a MAKER (0 to 5)");
        bounds("maker of a kind", 0, 5, maker -> new ToyHouse().kind(0, 100, 0, maker, 100) == 0);
        bounds("maker of a recall", 0, 5, maker -> new ToyHouse().recall(maker, 0, 99) == 0);
        for (int maker = 0; maker <= 5; maker++) {
            ToyHouse x = new ToyHouse();
            x.kind(0, 100, 0, maker, 100);
            x.toy(0, 0);
            x.recall((maker + 1) % 6, 0, 99);
            due("recall of another maker than " + maker, x.toyIs(0, 6), 0);
            x.recall(maker, 0, 99);
            due("recall of maker " + maker, x.toyIs(0, 6), 1);
        }
    }

    static void wearBorne() {
        of("Term 1", "the WEAR that it bears (1 to 1000)");
        bounds("bears", 1, 1000, bears -> new ToyHouse().kind(0, 100, 0, 0, bears) == 0);
        due("one that bears 1 and has none", whyNotWorn(1, 0), 0);
        due("one that bears 1 and has 1", whyNotWorn(1, 1), 4);
        due("one that bears 699 and has 698", whyNotWorn(699, 698), 0);
        due("one that bears 699 and has 699", whyNotWorn(699, 699), 4);
        due("one that bears 1000 and has 699", whyNotWorn(1000, 699), 0);
    }

    /** Why a toy of so much wear can't be lent; wear 0: it was never lent. */
    private static int whyNotWorn(int bears, int wear) {
        ToyHouse x = new ToyHouse();
        x.kind(0, 100, 0, 0, bears);
        x.toy(0, 0);
        x.family(0, 0, 0);
        if (wear > 0) {
            x.lend(0, 0);
            x.now(wear);
            back(x, 0);
        }
        return x.not(0, 0);
    }

    static void sorts() {
        of("Term 1", "PIECES of SORTS 0 to 5");
        allBounds("pieces of sort", 0, 5, sort -> house(1, 0, 0).pieces(0, sort, 1, 1));
        allBounds("minutes of sort", 0, 5, sort -> new ToyHouse().minutes(sort, 1));
        for (int sort = 0; sort <= 5; sort++) {
            ToyHouse x = house(1, 0, 0);
            x.pieces(0, sort, 3, 1);
            x.toy(0, 0);
            for (int other = 0; other <= 5; other++) {
                due("of sort " + other + " if it has 3 of " + sort, x.toyIs(0, 10 + other), other == sort ? 3 : 0);
            }
        }
        due("of sort -1", house().toyIs(0, 9), NONE);
        due("of sort 6", house().toyIs(0, 16), NONE);
    }

    static void piecesWhenWhole() {
        of("Term 1", "how many it has when it is whole (0 to 6; 0 at first)");
        bounds("many", 0, 6, many -> house(1, 0, 0).pieces(0, 0, many, 1));
        ToyHouse x = house(3, 0, 0);
        x.pieces(1, 3, 6, 1);
        x.pieces(2, 3, 6, 1);
        x.pieces(2, 3, 0, 1);
        for (int k = 0; k <= 2; k++) {
            x.toy(k, 0);
        }
        due("at first", x.toyIs(0, 13), 0);
        due("six", x.toyIs(1, 13), 6);
        due("none again", x.toyIs(2, 13), 0);
    }

    static void weights() {
        of("Term 1", "what each weighs (1 to 400)");
        bounds("weight", 1, 400, weight -> house(1, 0, 0).pieces(0, 0, 1, weight));
        bounds("weight of none", 1, 400, weight -> house(1, 0, 0).pieces(0, 0, 0, weight));
        ToyHouse x = house(2, 0, 0);
        for (int sort = 0; sort <= 5; sort++) {
            x.pieces(0, sort, 6, 400);
            x.pieces(1, sort, 6, 1);
        }
        x.toy(0, 0);
        x.toy(1, 0);
        due("the heaviest", x.toyIs(0, 8), 36 * 400);
        due("the lightest", x.toyIs(1, 8), 36);
    }

    static void toys() {
        of("Term 1", "TOYS 0 to 15");
        ToyHouse x = house(1, 0, 1);
        for (int t = 0; t <= 15; t++) {
            due("toy " + t, x.toy(0, 0), t);
        }
        due("a 17th toy", x.toy(0, 0), NONE);
        allBounds("where toy is", 0, 15, t -> house(1, 16, 0).toyIs(t, 0) == 0);
        allBounds("lend toy", 0, 15, t -> house(1, 16, 1).lend(t, 0) == 21);
        allBounds("cull toy", 0, 15, t -> house(1, 16, 0).cull(t));
        due("all of them as bits", x.whole(0, 2), 0xFFFF);
        due("lent, the last one", x.lend(15, 0), 21);
        due("all but the last as bits", x.whole(0, 2), 0x7FFF);
    }

    static void batches() {
        of("Term 1", "a batch (0 to 99)");
        bounds("batch", 0, 99, batch -> house(1, 0, 0).toy(0, batch) == 0);
        bounds("recall from batch", 0, 99, from -> new ToyHouse().recall(0, from, 99) == 0);
        bounds("recall to batch", 0, 99, to -> new ToyHouse().recall(0, 0, to) == 0);
        ToyHouse x = house(1, 0, 0);
        x.toy(0, 0);
        x.toy(0, 99);
        x.recall(0, 1, 98);
        due("neither of 0 nor of 99", x.recalled(0, 0), 0);
        x.recall(0, 0, 98);
        due("of 0", x.recalled(1, 0), 1);
        x.recall(0, 1, 99);
        due("of 99", x.recalled(2, 0), 2);
    }

    static void toysAtFirst() {
        of("Term 1", "it has PIECES of each SORT (all at first), WEAR (0 at first)");
        ToyHouse x = new ToyHouse();
        x.kind(0, 100, 0, 0, 1);
        for (int sort = 0; sort <= 5; sort++) {
            x.pieces(0, sort, 6 - sort, 1);
        }
        x.toy(0, 0);
        x.family(0, 0, 0);
        for (int sort = 0; sort <= 5; sort++) {
            due("of sort " + sort + " at first", x.toyIs(0, 10 + sort), 6 - sort);
        }
        due("wear at first", x.toyIs(0, 3), 0);
        due("below what it bears", x.not(0, 0), 0);
        lendAndBack(x, 0, 0, 6, 5, 4, 3, 2, 0);
        due("wear then", x.toyIs(0, 3), 1);
        due("of sort 4 then", x.toyIs(0, 14), 2);
        due("of sort 5 then", x.toyIs(0, 15), 0);
    }

    static void places() {
        of("Term 1", "is IN THE HOUSE, LENT to a FAMILY, LOST, or CULLED");
        ToyHouse x = house();
        due("at first", x.toyIs(0, 0), 0);
        due("of no family at first", x.toyIs(0, 1), NONE);
        x.lend(0, 0);
        due("lent", x.toyIs(0, 0), 1);
        due("to family 0", x.toyIs(0, 1), 0);
        due("culled while it is lent", x.cull(0), false);
        x.lost(0);
        due("lost", x.toyIs(0, 0), 2);
        due("of no family then", x.toyIs(0, 1), NONE);
        due("culled when it is lost", x.cull(0), false);
        x.cull(1);
        due("culled", x.toyIs(1, 0), 3);
        due("lost when it is culled", x.lost(1), NONE);
        due("culled still", x.toyIs(1, 0), 3);
    }

    static void lacking() {
        of("Term 1", "LACKING of a SORT: what it has not of those of its KIND");
        ToyHouse x = house();
        due("whole", x.toyIs(0, 7), 0);
        lendAndBack(x, 0, 0, 2, 0, 0);
        due("one of sort 2", x.toyIs(0, 7), 1);
        lendAndBack(x, 0, 0, 0, 0, 0);
        due("all", x.toyIs(0, 7), 3);
        due("none lacks of a kind without pieces", house(1, 1, 0).toyIs(0, 7), 0);
    }

    static void families() {
        of("Term 1", "FAMILIES 0 to 9");
        ToyHouse x = house(1, 1, 0);
        for (int f = 0; f <= 9; f++) {
            due("family " + f, x.family(0, 0, 0), f);
        }
        due("an eleventh family", x.family(0, 0, 0), NONE);
        allBounds("owes, family", 0, 9, f -> house(0, 0, 10).owes(f) == 0);
        allBounds("lend to family", 0, 9, f -> house(1, 1, 10).lend(0, f) == 21);
        allBounds("waits, family", 0, 9, f -> house(1, 0, 10).waits(f, 0));
        allBounds("a gift not to family", 0, 9, f -> house(1, 1, 10).gift(0, 1, f));
    }

    static void youngest() {
        of("Term 1", "the age of its youngest child (0 to 15)");
        bounds("youngest", 0, 15, youngest -> new ToyHouse().family(youngest, 0, 0) == 0);
        due("youngest 15 in the rules", turnOf(15, 0, 0, "ny(1=1)"), 15);
        due("youngest 0 in the rules", turnOf(0, 9, 4, "ny(1=1)"), 0);
    }

    static void needs() {
        of("Term 1", "NEED (0 to 9)");
        bounds("need", 0, 9, need -> new ToyHouse().family(0, need, 0) == 0);
        bounds("need of a gift's term", 0, 9, need -> house().gift(0, 3, need));
        due("need 9 in the rules", turnOf(0, 9, 0, "ne(1=1)"), 9);
        due("need 0 in the rules", turnOf(15, 0, 4, "ne(1=1)"), 0);
    }

    static void villages() {
        of("Term 1", "a VILLAGE (0 to 4)");
        allBounds("village", 0, 4, village -> new ToyHouse().family(0, 0, village) == 0);
        allBounds("village of a gift's term", 0, 4, village -> house().gift(0, 0, village));
        allBounds("village of a van", 0, 4, village -> new ToyHouse().van(village, 1, 0) == 0);
        due("village 4 in the rules", turnOf(0, 0, 4, "nv(1=1)"), 4);
        due("village 0 in the rules", turnOf(15, 9, 0, "nv(1=1)"), 0);
    }

    private static int turnOf(int youngest, int need, int village, String text) {
        ToyHouse x = house(1, 0, 0);
        x.family(youngest, need, village);
        x.waits(0, 0);
        rules(x, text);
        return x.next(0, 1);
    }
}
