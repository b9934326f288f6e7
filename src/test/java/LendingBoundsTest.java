import java.io.IOException;

/** The boundaries that Term 3 names: what is lent and comes back, what a bag weighs, what could be made whole. */
public final class LendingBoundsTest extends Sentences {
    public static void main(String[] args) throws IOException, ReflectiveOperationException {
        runAll(LendingBoundsTest.class, "Term 3");
    }

    // ---- lent

    /** A toy that bears 5, with one thing that bars it, and the next one too; how much wear it has is told. */
    private static ToyHouse worn(int wear) {
        ToyHouse x = new ToyHouse();
        x.kind(0, 100, 0, 0, 5);
        x.toy(0, 50);
        x.family(0, 0, 0);
        x.family(0, 0, 1);
        x.lend(0, 0);
        x.now(wear);
        back(x, 0);
        return x;
    }

    /** Each set of the reasons 2 to 7, as bits: the lowest of them is told, and 1 ahead of all. */
    static void firstThatIsSo() {
        of("Term 3", "NOT if (the first that is so)");
        for (int reasons = 0; reasons < 256; reasons += 4) {
            ToyHouse x = barredBy(reasons);
            due("for reasons " + reasons, x.not(0, 0), reasons == 0 ? 0 : Integer.numberOfTrailingZeros(reasons));
            due("lend for reasons " + reasons, x.lend(0, 0), reasons == 0 ? 21 : NONE);
            x.cull(0);
            due("culled or lent for reasons " + reasons, x.not(0, 0), 1);
        }
    }

    private static boolean among(int reasons, int reason) {
        return (reasons >> reason & 1) == 1;
    }

    private static ToyHouse barredBy(int reasons) {
        ToyHouse x = new ToyHouse();
        x.kind(0, 100, 0, 0, among(reasons, 4) ? 1 : 2);
        x.toy(0, 50);
        x.family(0, 0, 0);
        rules(x, among(reasons, 2) ? "w(1=1)" : "w(1=2)");
        lendAndBack(x, 0, 0);
        if (among(reasons, 3)) {
            x.recall(0, 50, 50);
        }
        if (among(reasons, 5)) {
            x.gift(0, 1, 0);
        }
        rules(x, (among(reasons, 6) ? "a(1=2)" : "a(1=1)") + (among(reasons, 7) ? ";u(1=1)" : ";u(1=2)"));
        return x;
    }

    static void notInTheHouse() {
        of("Term 3", "1 it is not IN THE HOUSE");
        ToyHouse x = house();
        due("in the house", x.not(0, 0), 0);
        x.lend(0, 0);
        due("lent", x.not(0, 1), 1);
        due("lent to this family", x.not(0, 0), 1);
        back(x, 0, 2, 0, 1);
        due("in the house again", x.not(0, 0), 0);
        x.lend(0, 0);
        x.lost(0);
        due("lost", x.not(0, 0), 1);
        makeDirty(x, 1, 0, 2, 0, 1);
        due("in the house, to be washed", x.not(1, 0), 2);
        x.cull(1);
        due("culled, to be washed", x.not(1, 0), 1);
        due("lend what is culled", x.lend(1, 0), NONE);
    }

    static void mustBeWashed() {
        of("Term 3", "2 it must be WASHED");
        ToyHouse x = house();
        makeDirty(x, 0, 0, 2, 0, 1);
        x.recall(1, 5, 5);
        due("to be washed and recalled", x.not(0, 0), 2);
        due("lend it", x.lend(0, 0), NONE);
        x.wash(0);
        due("washed and recalled", x.not(0, 0), 3);
        makeDirty(x, 1, 0, 2, 0, 1);
        due("to be washed", x.not(1, 0), 2);
        x.wash(1);
        due("washed", x.not(1, 0), 0);
        due("lend it", x.lend(1, 0), 21);
    }

    static void isRecalled() {
        of("Term 3", "3 it is RECALLED");
        ToyHouse x = worn(5);
        due("worn", x.not(0, 0), 4);
        x.recall(0, 50, 50);
        due("recalled and worn", x.not(0, 0), 3);
        x = house();
        x.recall(1, 6, 99);
        due("the batch below", x.not(0, 0), 0);
        due("the first batch", x.not(1, 0), 3);
        due("lend it", x.lend(1, 0), NONE);
        due("lend the one below", x.lend(0, 0), 21);
    }

    static void wearAsBorne() {
        of("Term 3", "4 its WEAR is what its KIND bears or more");
        due("one below", worn(4).not(0, 0), 0);
        due("what it bears", worn(5).not(0, 0), 4);
        due("one more", worn(6).not(0, 0), 4);
        due("lend one below", worn(4).lend(0, 0), 25);
        due("lend what it bears", worn(5).lend(0, 0), NONE);
        ToyHouse x = worn(5);
        x.gift(0, 1, 0);
        due("worn, and a term", x.not(0, 0), 4);
        x = worn(4);
        x.gift(0, 1, 0);
        due("one below, and a term", x.not(0, 0), 5);
    }

    static void termBars() {
        of("Term 3", "5 a term of a GIFT bars it");
        ToyHouse x = house();
        x.gift(0, 1, 0);
        rules(x, "a(1=2)");
        due("barred, and an a", x.not(0, 0), 5);
        due("not barred, and an a", x.not(0, 1), 6);
        rules(x, "a(1=1)");
        due("lend it, barred", x.lend(0, 0), NONE);
        due("lend it, not barred", x.lend(0, 1), 21);
    }

    static void someADoesNotHold() {
        of("Term 3", "6 some a does not hold");
        ToyHouse x = house();
        rules(x, "a(y=4);u(1=1)");
        due("a holds, and an u", x.not(0, 0), 7);
        due("a does not hold, and an u", x.not(0, 1), 6);
        rules(x, "a(1=1);a(y=4)");
        due("a holds", x.lend(0, 0), 21);
        due("a does not hold", x.lend(1, 1), NONE);
    }

    static void someUHolds() {
        of("Term 3", "7 some u holds");
        ToyHouse x = house();
        rules(x, "u(t=0);u(t=1)");
        due("the first u", x.not(0, 0), 7);
        due("the last u", x.not(1, 0), 7);
        due("none", x.not(2, 0), 0);
        due("lend it, one holds", x.lend(1, 0), NONE);
        due("lend it, none holds", x.lend(2, 0), 21);
    }

    static void dueDay() {
        of("Term 3", "It is DUE on NOW and d DAYS");
        ToyHouse x = house();
        rules(x, "d1(t=0);d200(t=1)");
        due("the least on day 0", x.lend(0, 0), 1);
        due("due", x.toyIs(0, 2), 1);
        x.now(699);
        due("the most on the last day", x.lend(1, 0), 899);
        due("due behind the last day", x.toyIs(1, 2), 899);
        due("none that holds", x.lend(2, 0), 720);
        due("not due when it is back", back(x, 1, 2, 0, 1) == 0 && x.toyIs(1, 2) == NONE, true);
    }

    static void waitsNoMore() {
        of("Term 3", "A FAMILY that waits for its KIND waits no more then.");
        ToyHouse x = house(2, 2, 2);
        x.waits(0, 0);
        x.waits(0, 1);
        x.waits(1, 0);
        due("one that can't be lent", x.lend(2, 0), NONE);
        due("two wait", x.count(10), 2);
        x.lend(0, 0);
        due("the other family waits still", x.count(10), 1);
        due("for the other kind it waits still", x.count(11), 1);
        due("who waits", x.next(0, 0), 1);
        due("it waits no more", x.leaves(0, 0), false);
        due("it may wait again", x.waits(0, 0), true);
        x.leaves(1, 0);
        x.leaves(0, 0);
        x.lend(1, 1);
        due("one that did not wait", x.count(10), 0);
    }

    // ---- back

    static void notMoreThanItHad() {
        of("Term 3", "what it has of each SORT told (not more than it had)");
        for (int sort = 0; sort <= 5; sort++) {
            due("as many as it had of sort " + sort, backWith(sort, 2), 0);
            due("one fewer of sort " + sort, backWith(sort, 1), 0);
            due("none of sort " + sort, backWith(sort, 0), 0);
            due("one more of sort " + sort, backWith(sort, 3), -2);
            due("255 of sort " + sort, backWith(sort, 255), -2);
            due("128 of sort " + sort, backWith(sort, 128), -2);
        }
        ToyHouse x = house();
        lendAndBack(x, 0, 0, 1, 0, 1);
        due("more than it had, not more than its kind", lendAndBack(x, 0, 0, 2, 0, 1), -2);
        due("as it had", back(x, 0, 1, 0, 1), 0);
    }

    private static int backWith(int sort, int many) {
        ToyHouse x = house(1, 0, 1);
        int[] told = new int[6];
        for (int i = 0; i <= 5; i++) {
            x.pieces(0, i, 2, 1);
            told[i] = 2;
        }
        told[sort] = many;
        x.toy(0, 0);
        return lendAndBack(x, 0, 0, told);
    }

    static void late() {
        of("Term 3", "LATE by DAYS behind the one on which it was DUE");
        due("the day before", forgivingOfSecond(9), 0);
        due("on the day", forgivingOfSecond(10), 0);
        due("the day behind", forgivingOfSecond(11), 1);
        due("l on the day", fineOn(10), 0);
        due("l on the day behind", fineOn(11), 1);
        due("l two days behind", fineOn(12), 2);
        due("l much behind", fineOn(699), 689);
    }

    private static int fineOn(int day) {
        ToyHouse x = house(1, 1, 1);
        rules(x, "d10(1=1);fl(1=1)");
        x.lend(0, 0);
        x.now(day);
        return back(x, 0);
    }

    /** Whether a toy that comes back on a day, and was due on day 10, counts as late behind a fine. */
    private static int forgivingOfSecond(int day) {
        ToyHouse x = house(1, 2, 1);
        rules(x, "d10(1=1);f5(1=1)");
        lendAndBack(x, 1, 0);
        x.lend(0, 0);
        x.now(day);
        back(x, 0);
        return x.forgiving(3);
    }

    static void wearByDays() {
        of("Term 3", "its WEAR is more by DAYS that it was LENT (at least 1)");
        due("on the day", wearBy(0, 0), 1);
        due("a day", wearBy(0, 1), 1);
        due("two days", wearBy(0, 2), 2);
        due("from day 7 on, none", wearBy(7, 7), 1);
        due("from day 7 on, two", wearBy(7, 9), 2);
        due("all days", wearBy(0, 699), 699);
        ToyHouse x = house(1, 1, 1);
        lendAndBack(x, 0, 0);
        lendAndBack(x, 0, 0);
        due("twice on a day", x.toyIs(0, 3), 2);
        x.lend(0, 0);
        x.now(10);
        due("not yet", x.toyIs(0, 3), 2);
        x.lost(0);
        due("lost", x.toyIs(0, 3), 2);
    }

    private static int wearBy(int from, int to) {
        ToyHouse x = house(1, 1, 1);
        x.now(from);
        x.lend(0, 0);
        x.now(to);
        back(x, 0);
        return x.toyIs(0, 3);
    }

    static void fineIsOwed() {
        of("Term 3", "the FINE is owed, if it is not FORGIVEN");
        ToyHouse x = house();
        rules(x, "f7(1=1);o(t=1)");
        due("not forgiven", lendAndBack(x, 0, 0, 2, 0, 1), 7);
        due("owed", x.owes(0), 7);
        due("forgiven", lendAndBack(x, 1, 0, 2, 0, 1), 0);
        due("not owed", x.owes(0), 7);
        due("the other family owes nothing", x.owes(1), 0);
        due("once more", lendAndBack(x, 0, 0, 2, 0, 1), 7);
        due("owed together", x.owes(0), 14);
    }

    static void lackingPaidFor() {
        of("Term 3", "LACKING PIECES that it had are PAID FOR (p for each, owed, too)");
        ToyHouse x = house();
        rules(x, "p7(1=1);f100(1=1);o(t=1)");
        due("none lack", lendAndBack(x, 0, 0, 2, 0, 1), 100);
        due("one lacks", lendAndBack(x, 0, 0, 1, 0, 1), 107);
        due("what lacked is not paid for again", lendAndBack(x, 0, 0, 1, 0, 1), 100);
        due("both others lack", lendAndBack(x, 0, 0), 114);
        due("nothing is left to pay for", lendAndBack(x, 0, 0), 100);
        due("a forgiven fine, all lack", lendAndBack(x, 1, 1), 21);
        due("owed by family 0", x.owes(0), 521);
        due("owed by family 1", x.owes(1), 21);
    }

    static void washedIfAWHolds() {
        of("Term 3", "if a w holds it must be WASHED.");
        ToyHouse x = house();
        rules(x, "w(m>1);w(t=1)");
        lendAndBack(x, 0, 0, 1, 0, 1);
        due("one lacks: none holds", x.toyIs(0, 5), 0);
        lendAndBack(x, 0, 0, 1, 0, 0);
        due("two lack: the first holds", x.toyIs(0, 5), 1);
        lendAndBack(x, 1, 0, 2, 0, 1);
        due("the second holds", x.toyIs(1, 5), 1);
        due("not lent till then", x.lend(1, 0), NONE);
        x.wash(1);
        due("lent then", x.lend(1, 0), 21);
        due("clean while it is lent", x.toyIs(1, 5), 0);
        x.lost(1);
        due("none is asked of a lost one", x.toyIs(1, 5), 0);
    }

    static void lettersAsTheyComeBack() {
        of("Term 3", "(Letters as it is then, WEAR and PIECES as they come back, h with it.)");
        ToyHouse x = house();
        x.lend(0, 0);
        x.lend(1, 0);
        x.now(9);
        rules(x, "f1000(w=9&m=2&h=2&n=1);p10(w=9&m=2&h=2&n=1);w(w=9&m=2&h=2);o(!w=9|!m=2|!h=2)");
        due("the first", back(x, 0, 1, 0, 0), 1020);
        due("to be washed", x.toyIs(0, 5), 1);
        rules(x, "f1000(w=9&m=0&h=1)");
        due("the last", back(x, 1, 2, 0, 1), 1000);
        due("none is there", x.count(20), 0);
    }

    static void lostPaidFor() {
        of("Term 3", "then all its PIECES that it had are PAID FOR");
        ToyHouse x = house();
        rules(x, "p7(1=1);f100(1=1);w(1=1)");
        x.lend(0, 0);
        due("whole", x.lost(0), 21);
        due("owed", x.owes(0), 21);
        due("not to be washed", x.toyIs(0, 5), 0);
        lendAndBack(x, 1, 1, 1, 0, 0);
        x.wash(1);
        x.lend(1, 0);
        due("what it had", x.lost(1), 7);
        due("owed together", x.owes(0), 28);
        lendAndBack(x, 2, 1);
        x.wash(2);
        x.lend(2, 0);
        due("nothing", x.lost(2), 0);
        ToyHouse y = house(1, 1, 1);
        rules(y, "p7(1=1)");
        y.lend(0, 0);
        due("one without pieces", y.lost(0), 0);
    }

    // ---- weighed

    /** A toy with 3 of 10, 2 of 20, 1 of 30 (100 together) in a bag of 50. */
    private static ToyHouse weighed() {
        ToyHouse x = house(1, 0, 1);
        x.pieces(0, 0, 3, 10);
        x.pieces(0, 1, 2, 20);
        x.pieces(0, 3, 1, 30);
        x.toy(0, 0);
        x.bag(50);
        return x;
    }

    static void emptyBag() {
        of("Term 3", "and the empty bag (0 to 2000; 0 at first)");
        bounds("bag", 0, 2000, weight -> new ToyHouse().bag(weight));
        ToyHouse x = house();
        due("at first", x.toyIs(0, 8), 45);
        x.bag(2000);
        due("2000", x.toyIs(0, 8), 2045);
        x.bag(2001);
        due("2000 still", x.toyIs(0, 8), 2045);
        due("by a weight", x.weigh(0, 2045, 0, 0), 1);
        due("nothing lacks by it", x.weigh(0, 2045, 0, 3), 0);
        x.bag(0);
        due("0", x.toyIs(0, 8), 45);
        lendAndBack(x, 0, 0);
        due("an empty bag of 0", x.toyIs(0, 8), 0);
    }

    static void errors() {
        of("Term 3", "BY A WEIGHT with an error e (0 to 2000)");
        bounds("e", 0, 2000, e -> weighed().weigh(0, 150, e, 0) != NONE);
        due("e 0", weighed().weigh(0, 150, 0, 0), 1);
        due("e 2000: all ways", weighed().weigh(0, 150, 2000, 0), 24);
        due("2000 away from the full bag", weighed().weigh(0, 2150, 2000, 0), 1);
        due("2001 away from the full bag", weighed().weigh(0, 2151, 2000, 0), -2);
    }

    static void noneToAll() {
        of("Term 3", "of each SORT from none to all that the TOY had");
        due("none", weighed().weigh(0, 150, 0, 3), 0);
        due("all", weighed().weigh(0, 50, 0, 3), 6);
        due("all of sort 0", weighed().weigh(0, 50, 0, 10), 3);
        due("all of sort 1", weighed().weigh(0, 50, 0, 11), 2);
        due("none of sort 2", weighed().weigh(0, 50, 0, 12), 0);
        due("all of sort 3", weighed().weigh(0, 50, 0, 13), 1);
        due("more than all", weighed().weigh(0, 40, 0, 3), -2);
        due("less than none", weighed().weigh(0, 160, 0, 3), -2);
        due("ways", weighed().weigh(0, 0, 2000, 0), 4 * 3 * 2);
        ToyHouse x = weighed();
        lendAndBack(x, 0, 0, 1, 2, 0, 0);
        due("ways of what it had", x.weigh(0, 0, 2000, 0), 2 * 3);
        due("not more than it had", x.weigh(0, 110, 0, 0), -2);
        due("as it had", x.weigh(0, 100, 0, 0), 1);
        ToyHouse y = house(1, 0, 0);
        for (int sort = 0; sort <= 5; sort++) {
            y.pieces(0, sort, 6, 400);
        }
        y.toy(0, 0);
        due("the most ways that can be, in all", y.weigh(0, 7200, 2000, 0) > 0, true);
        due("all lack", y.weigh(0, 0, 0, 3), 36);
        due("ways in which all lack", y.weigh(0, 0, 399, 0), 1);
        due("or all but one", y.weigh(0, 0, 400, 0), 7);
    }

    static void mostWays() {
        of("Term 3", "all ways what lacks could be");
        ToyHouse x = house(1, 0, 0);
        for (int sort = 0; sort <= 5; sort++) {
            x.pieces(0, sort, 6, 1);
        }
        x.toy(0, 0);
        due("all ways", x.weigh(0, 18, 18, 0), 117649);
        due("all but that in which nothing lacks", x.weigh(0, 17, 18, 0), 117648);
        due("all but that in which all lacks", x.weigh(0, 19, 18, 0), 117648);
        due("one way alone", x.weigh(0, 36, 0, 0), 1);
        ToyHouse y = house(1, 1, 0);
        due("one without pieces", y.weigh(0, 0, 0, 0), 1);
        due("one without pieces, too heavy", y.weigh(0, 1, 0, 0), -2);
    }

    static void notFartherThanE() {
        of("Term 3", "so that the BAG's weight then is not farther than e from it");
        due("5 too heavy for one, by 5", weighed().weigh(0, 155, 5, 0), 1);
        due("5 too heavy for one, by 4", weighed().weigh(0, 155, 4, 0), -2);
        due("5 too light for one, by 5", weighed().weigh(0, 45, 5, 0), 1);
        due("5 too light for one, by 4", weighed().weigh(0, 45, 4, 0), -2);
        due("between two, by 5", weighed().weigh(0, 145, 5, 0), 2);
        due("between two, by 4", weighed().weigh(0, 145, 4, 0), -2);
        due("nearer to one, by 5", weighed().weigh(0, 146, 5, 0), 1);
        due("nearer to one, by 6", weighed().weigh(0, 146, 6, 0), 2);
    }

    static void wholeSurely() {
        of("Term 3", "WHOLE SURELY (nothing of what it had lacks in any way)");
        due("nothing lacks", weighed().weigh(0, 150, 0, 1), 63);
        due("10 lack: sort 0", weighed().weigh(0, 140, 0, 1), 63 - 1);
        due("20 lack: sort 0 or 1", weighed().weigh(0, 130, 0, 1), 63 - 3);
        due("30 lack: sorts 0, 1 or 3", weighed().weigh(0, 120, 0, 1), 63 - 11);
        due("all lack: those of which it had none", weighed().weigh(0, 50, 0, 1), 63 - 11);
        ToyHouse x = weighed();
        lendAndBack(x, 0, 0, 0, 2, 0, 1);
        due("of sort 0 it had none: 20 lack", x.weigh(0, 100, 0, 1), 63 - 2);
    }

    static void lacksSurely() {
        of("Term 3", "LACKS SURELY (something in each)");
        due("nothing lacks", weighed().weigh(0, 150, 0, 2), 0);
        due("10 lack: sort 0", weighed().weigh(0, 140, 0, 2), 1);
        due("20 lack: sort 0 or 1", weighed().weigh(0, 130, 0, 2), 0);
        due("70 lack: not without sort 1", weighed().weigh(0, 80, 0, 2), 2);
        due("90 lack: all", weighed().weigh(0, 60, 0, 2), 11);
        due("80 lack: 10 or 30 of sort 0 among them, so all", weighed().weigh(0, 70, 0, 2), 11);
        due("80 or 70 lack", weighed().weigh(0, 75, 5, 2), 2);
        ToyHouse x = weighed();
        due("nothing lacks", x.weigh(0, 150, 0, 1), 63);
        due("all lack, asked of the same house", x.weigh(0, 50, 0, 2), 11);
        due("nothing lacks, asked of the same house", x.weigh(0, 150, 0, 1), 63);
        due("nothing lacks surely", x.weigh(0, 150, 0, 2), 0);
    }

    static void openSorts() {
        of("Term 3", "else OPEN");
        due("20 lack: sort 0 or 1, not whole", weighed().weigh(0, 130, 0, 1) & 3, 0);
        due("20 lack: sort 0 or 1, not lacking", weighed().weigh(0, 130, 0, 2) & 3, 0);
        due("0 or 10 lack: sort 0 not whole", weighed().weigh(0, 145, 5, 1) & 1, 0);
        due("0 or 10 lack: sort 0 not lacking", weighed().weigh(0, 145, 5, 2) & 1, 0);
        due("10 lack: sort 0 lacks", weighed().weigh(0, 140, 5, 2) & 1, 1);
        due("any: none is sure", weighed().weigh(0, 100, 50, 2), 0);
        due("any: those alone of which it had none", weighed().weigh(0, 100, 50, 1), 63 - 11);
    }

    static void fewest() {
        of("Term 3", "FEWEST: the way by which fewest lack together; of like ones the least row (by SORTS)");
        due("30 lack: one of 30", weighed().weigh(0, 120, 0, 3), 1);
        due("not of sort 0", weighed().weigh(0, 120, 0, 10), 0);
        due("of sort 3", weighed().weigh(0, 120, 0, 13), 1);
        // 40 lack: 20 20 or 10 30
        due("40 lack: two", weighed().weigh(0, 110, 0, 3), 2);
        due("none of sort 0", weighed().weigh(0, 110, 0, 10), 0);
        due("two of sort 1", weighed().weigh(0, 110, 0, 11), 2);
        due("none of sort 3", weighed().weigh(0, 110, 0, 13), 0);
        due("0 to 40 lack: nothing", weighed().weigh(0, 130, 20, 3), 0);
        due("10 to 30 lack: one, the last sort of like ones", weighed().weigh(0, 130, 10, 13), 1);
        due("10 to 20 lack: one of sort 1", weighed().weigh(0, 135, 5, 11), 1);
        due("10 to 20 lack: none of sort 0", weighed().weigh(0, 135, 5, 10), 0);
        // of one house, one behind the other
        ToyHouse x = weighed();
        due("all lack", x.weigh(0, 50, 0, 3), 6);
        due("nothing lacks", x.weigh(0, 150, 2000, 3), 0);
        for (int sort = 0; sort <= 5; sort++) {
            due("nothing lacks of sort " + sort, x.weigh(0, 150, 2000, 10 + sort), 0);
            due("all lacks of sort " + sort, x.weigh(0, 50, 0, 10 + sort), x.toyIs(0, 10 + sort));
        }
    }

    // ---- made whole

    static void wholeOfThoseInTheHouse() {
        of("Term 3", "WHOLE TOYS of a KIND: of all TOYS of it IN THE HOUSE (RECALLED ones aside)");
        ToyHouse x = house();
        x.kind(0, 1, 0, 1, 9);
        x.toy(1, 0);
        due("three", x.whole(0, 2), 7);
        x.lend(0, 0);
        due("a lent one aside", x.whole(0, 2), 6);
        back(x, 0, 2, 0, 1);
        due("back again", x.whole(0, 2), 7);
        x.lend(0, 0);
        x.lost(0);
        due("a lost one aside", x.whole(0, 2), 6);
        x.recall(1, 6, 6);
        due("a recalled one aside", x.whole(0, 2), 4);
        x.cull(2);
        due("a culled one aside", x.whole(0, 2), 0);
        due("how many", x.whole(0, 0), 0);
        due("the other kind", x.whole(1, 2), 8);
    }

    static void allPiecesTogether() {
        of("Term 3", "all PIECES together: how many could be made whole");
        ToyHouse x = house();
        lendAndBack(x, 0, 0, 1, 0, 0);
        lendAndBack(x, 1, 0, 1, 0, 1);
        due("4 and 2 pieces: two", x.whole(0, 0), 2);
        lendAndBack(x, 1, 0, 0, 0, 1);
        due("3 and 2 pieces: one", x.whole(0, 0), 1);
        lendAndBack(x, 1, 0, 0, 0, 0);
        due("3 and 1 pieces: one", x.whole(0, 0), 1);
        lendAndBack(x, 2, 0, 1, 0, 1);
        due("2 and 1 pieces: one", x.whole(0, 0), 1);
        due("of these, of fewest lacking", x.whole(0, 2), 4);
        lendAndBack(x, 2, 0, 0, 0, 1);
        due("1 and 1 pieces: none", x.whole(0, 0), 0);
        due("none of them", x.whole(0, 2), 0);
        due("none moved", x.whole(0, 1), 0);
        x = house();
        lendAndBack(x, 0, 0, 2, 0, 0);
        due("6 and 2 pieces: two", x.whole(0, 0), 2);
        lendAndBack(x, 1, 0, 2, 0, 0);
        lendAndBack(x, 2, 0, 2, 0, 0);
        due("6 and 0 pieces: none", x.whole(0, 0), 0);
    }

    static void asManyAsThere() {
        of("Term 3", "at most as many as TOYS are there");
        due("no toys", house(1, 0, 0).whole(0, 0), 0);
        due("one without pieces", house(1, 1, 0).whole(0, 0), 1);
        due("sixteen without pieces", house(1, 16, 0).whole(0, 0), 16);
        ToyHouse x = house();
        due("three whole ones", x.whole(0, 0), 3);
        x.cull(1);
        due("two whole ones", x.whole(0, 0), 2);
    }

    static void moved() {
        of("Term 3", "MOVED: of all sets of so many of these TOYS that which lacks least together");
        ToyHouse x = house();
        due("none", x.whole(0, 1), 0);
        lendAndBack(x, 0, 0, 1, 0, 0);
        due("toys 1 and 2 are whole", x.whole(0, 1), 0);
        due("they are it", x.whole(0, 2), 6);
        lendAndBack(x, 1, 0, 1, 0, 1);
        due("toy 1 lacks one, toy 0 two", x.whole(0, 1), 1);
        due("toys 1 and 2", x.whole(0, 2), 6);
        lendAndBack(x, 2, 0, 0, 0, 1);
        due("one can be: toy 1", x.whole(0, 1), 1);
        due("toy 1", x.whole(0, 2), 2);
    }

    static void leastSetOfWhole() {
        of("Term 3", "of like ones the least set");
        ToyHouse x = house();
        lendAndBack(x, 0, 0, 1, 0, 1);
        lendAndBack(x, 1, 0, 1, 0, 1);
        lendAndBack(x, 2, 0, 2, 0, 0);
        due("two of three like ones", x.whole(0, 2), 3);
        due("moved", x.whole(0, 1), 2);
        x.cull(0);
        due("one of two like ones", x.whole(0, 2), 2);
        x = house();
        lendAndBack(x, 1, 0, 1, 0, 1);
        lendAndBack(x, 2, 0, 1, 0, 1);
        due("the whole one and the lower of like ones", x.whole(0, 2), 3);
    }
}
