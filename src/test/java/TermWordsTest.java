import java.io.IOException;

/** What the terms 1 to 5 say where they name no boundary, sentence by sentence. */
public final class TermWordsTest extends Sentences {
    public static void main(String[] args) throws IOException, ReflectiveOperationException {
        runAll(TermWordsTest.class, "Term 1", "Term 2", "Term 3", "Term 4", "Term 5", "The constants");
    }

    // ---- term 1 and 2

    static void toysOfKinds() {
        of("Term 1", "TOYS 0 to 15: a KIND, a batch");
        ToyHouse x = house(2, 0, 1);
        x.pieces(1, 3, 2, 7);
        x.toy(1, 40);
        x.toy(0, 41);
        due("pieces of its kind", x.toyIs(0, 13), 2);
        due("none of the other kind's", x.toyIs(1, 13), 0);
        x.recall(0, 40, 40);
        due("of that batch", x.toyIs(0, 6), 1);
        due("of another batch", x.toyIs(1, 6), 0);
    }

    /** Every call that asks a clause has a family: its letters stand in each of them. */
    static void lettersOfTheFamily() {
        of("Term 2", "(What does not matter to a CLAUSE is 0: no FAMILY: y e v h 0");
        String family = "[y*10+e]*10+v";
        ToyHouse x = house();
        rules(x, "n" + family + "(1=1);d1+h(1=1);f" + family + "+h(1=1);p" + family + "+h(1=1);w(v=3&e=6);u(y=1&t=2)");
        x.waits(0, 0);
        due("n", x.next(0, 1), 420);
        due("d", x.lend(0, 1), 1);
        due("d with one toy", x.lend(1, 1), 2);
        due("u", x.not(2, 1), 7);
        due("u of the other family", x.not(2, 0), 0);
        due("f", back(x, 0, 2, 0, 1), 165);
        due("w", x.toyIs(0, 5), 1);
        due("p", x.lost(1), 3 * 164);
    }

    // ---- term 3

    static void lent() {
        of("Term 3", "LENT: a TOY that is IN THE HOUSE, CLEAN, not RECALLED, whose terms let it, whose WEAR is below what its KIND bears, to a FAMILY");
        ToyHouse x = house();
        due("toy 0", x.lend(0, 1), 21);
        due("it is lent", x.toyIs(0, 0), 1);
        due("to family 1", x.toyIs(0, 1), 1);
        due("not in the house", x.lend(0, 0), NONE);
        x.now(29);
        back(x, 0, 2, 0, 1);
        due("wear below what it bears", x.lend(0, 0), 50);
        x.now(30);
        back(x, 0, 2, 0, 1);
        due("wear as much as it bears", x.lend(0, 0), NONE);
        makeDirty(x, 1, 0, 2, 0, 1);
        due("not clean", x.lend(1, 0), NONE);
        x.wash(1);
        due("clean", x.lend(1, 0), 51);
        x.gift(2, 1, 0);
        due("its terms do not let it", x.lend(2, 0), NONE);
        due("its terms let it", x.not(2, 1), 0);
        x.recall(1, 7, 7);
        due("recalled", x.lend(2, 1), NONE);
    }

    static void back() {
        of("Term 3", "BACK: a TOY that is LENT comes back NOW");
        ToyHouse x = house();
        x.lend(0, 1);
        x.now(12);
        due("back", back(x, 0, 2, 0, 1), 0);
        due("in the house", x.toyIs(0, 0), 0);
        due("on day 11", x.where(0, 11, 12), 2);
        due("on day 12", x.where(0, 12, 12), 0);
        due("once", back(x, 0, 2, 0, 1), NONE);
    }

    static void lostIfToldSo() {
        of("Term 3", "It is LOST if told so");
        ToyHouse x = house();
        x.lend(0, 1);
        x.now(90);
        due("lent, however late", x.toyIs(0, 0), 1);
        x.lost(0);
        due("lost", x.toyIs(0, 0), 2);
        due("of no family", x.count(21), 0);
        due("it keeps the pieces that it had", x.toyIs(0, 7), 0);
        due("and its wear", x.toyIs(0, 3), 0);
    }

    static void weight() {
        of("Term 3", "A BAG of a TOY WEIGHS what its PIECES weigh together");
        ToyHouse x = house();
        due("whole", x.toyIs(0, 8), 45);
        lendAndBack(x, 0, 0, 1, 0, 1);
        due("one of sort 0 lacks", x.toyIs(0, 8), 35);
        lendAndBack(x, 0, 0, 1, 0, 0);
        due("and that of sort 2", x.toyIs(0, 8), 10);
        lendAndBack(x, 0, 0);
        due("nothing left", x.toyIs(0, 8), 0);
        due("another toy's", x.toyIs(1, 8), 45);
    }

    static void moved() {
        of("Term 3", "(so many PIECES are put from one bag to another)");
        ToyHouse x = house();
        due("all are whole", x.whole(0, 1), 0);
        lendAndBack(x, 0, 0, 0, 0, 1);
        lendAndBack(x, 1, 0, 2, 0, 0);
        due("two could be whole", x.whole(0, 0), 2);
        due("by one piece", x.whole(0, 1), 1);
        due("in the bags of 1 and 2", x.whole(0, 2), 6);
        due("nothing is moved by asking", x.toyIs(1, 12), 0);
    }

    // ---- term 4

    static void next() {
        of("Term 4", "WHO COMES NEXT for a KIND");
        ToyHouse x = house(2, 0, 3);
        x.waits(2, 0);
        x.waits(1, 1);
        due("for kind 0", x.next(0, 0), 2);
        due("for kind 1", x.next(1, 0), 1);
    }

    static void served() {
        of("Term 4", "SERVED of a KIND: of those who wait for it");
        ToyHouse x = house(2, 0, 4);
        x.waits(0, 0);
        x.waits(1, 0);
        x.waits(0, 1);
        due("two of kind 0", x.buying(60000, 3, 0), 2);
        due("one of kind 1", x.buying(60000, 3, 1), 1);
        due("all who wait", x.buying(60000, 99, NONE), 3);
        due("one of each", x.buying(60000, 6, 8), 200);
    }

    static void shelf() {
        of("Term 4", "THE VAN's shelf for a VILLAGE");
        ToyHouse x = house();
        x.waits(0, 0);
        due("village 0", x.van(0, 2, 1), 1);
        due("village 3", x.van(3, 2, 1), 0);
        x.waits(1, 0);
        due("village 0 still", x.van(0, 2, 1), 1);
        due("village 3 then", x.van(3, 2, 1), 1);
    }

    static void rotaDay() {
        of("Term 4", "on which DAY a TOY is");
        ToyHouse x = house();
        x.now(8);
        for (int t = 0; t < 3; t++) {
            makeDirty(x, t, 0, 2, 0, 1);
        }
        for (int t = 0; t < 3; t++) {
            due("one a day, toy " + t, x.rota(1, t), 8 + t);
            due("two a day, toy " + t, x.rota(2, t), 8 + t / 2);
        }
    }

    // ---- term 5

    static void told() {
        of("Term 5", "TOLD: a FAMILY is told of it.");
        ToyHouse x = house();
        x.lend(0, 0);
        x.lend(1, 1);
        x.recall(1, 5, 6);
        due("both open", x.recalled(0, 3), 3);
        x.told(0, 1);
        due("family 0 open", x.recalled(0, 3), 1);
        due("one in time", x.recalled(0, 2), 1);
    }

    static void gift() {
        of("Term 5", "A GIFT: a TOY with a term");
        ToyHouse x = house();
        x.gift(0, 1, 0);
        due("that toy", x.not(0, 0), 5);
        due("another toy", x.not(1, 0), 0);
        due("another family", x.not(0, 1), 0);
    }

    static void owedAndPaid() {
        of("Term 5", "OWED by a FAMILY; it PAYS.");
        ToyHouse x = house();
        rules(x, "p100(1=1);f7(1=1)");
        lendAndBack(x, 0, 0, 1, 0, 1);
        lendAndBack(x, 1, 0, 2, 0, 1);
        lendAndBack(x, 2, 1, 2, 0, 1);
        due("by family 0", x.owes(0), 114);
        due("by family 1", x.owes(1), 7);
        due("family 0 pays", x.pays(0, 14), 100);
        due("by family 0 then", x.owes(0), 100);
        due("by family 1 still", x.owes(1), 7);
    }

    static void where() {
        of("Term 5", "WHERE a TOY was on a DAY, as was known on a DAY");
        ToyHouse x = house();
        x.telling(3);
        x.now(10);
        x.lend(0, 1);
        x.now(20);
        back(x, 0, 2, 0, 1);
        due("on 9, as known at the end", x.where(0, 9, 699), 0);
        due("on 10, as known on 12", x.where(0, 10, 12), 0);
        due("on 10, as known on 13", x.where(0, 10, 13), 2);
        due("on 20, as known on 22", x.where(0, 20, 22), 2);
        due("on 20, as known on 23", x.where(0, 20, 23), 0);
        due("on 19, as known at the end", x.where(0, 19, 699), 2);
    }

    static void dayOfTheAct() {
        of("Term 5", "that of the act, and as many DAYS later");
        ToyHouse x = house();
        x.now(5);
        x.lend(0, 0);
        due("known on that day", x.where(0, 5, 5), 1);
        x.telling(1);
        x.lend(1, 0);
        due("not known on that day", x.where(1, 5, 5), 0);
        due("known a day later", x.where(1, 5, 6), 1);
    }

    static void check() {
        of("Term 5", "CHECK of a TOY: twos of numbers: a SORT, how many it has");
        ToyHouse x = house();
        due("as it is", Dues.check(x, 0, 2, 0, 2, 2, 1), NONE);
        lendAndBack(x, 0, 0, 1, 0, 0);
        due("as it was", Dues.check(x, 0, 2, 0, 2, 2, 1), 1);
        due("as it is then", Dues.check(x, 0, 2, 0, 1, 2, 0), NONE);
        due("how many ahead of the sort", Dues.check(x, 0, 2, 1, 0, 0, 2), 0);
    }

    static void tapeWhereItIsTold() {
        of("Term 5", "changes nothing but the tape, where it is told");
        ToyHouse x = house();
        x.feed(0, 0, 0, 0, 0);
        due("rules of too many", x.rules(21), NONE);
        due("back of one that is not lent", x.back(0), NONE);
        due("the tape stays", x.count(5), 20);
        due("rules with a fault", x.rules(20), -1000);
        due("the tape is empty then", x.count(5), 0);
    }

    static void none() {
        of("The constants", "`NONE = -1`: There is none.");
        due("NONE", ToyHouse.NONE, -1);
        due("no family has it", house().toyIs(0, 1), ToyHouse.NONE);
    }
}
