import java.io.IOException;

/** The boundaries that the promises 1 to 41 name, sentence by sentence; what terms name stands in the other tests. */
public final class PromiseBoundsTest extends Sentences {
    private static final int NOBODY = -1000000;

    public static void main(String[] args) throws IOException, ReflectiveOperationException {
        String[] sections = new String[41];
        for (int i = 1; i <= 41; i++) {
            sections[i - 1] = "Promise " + i;
        }
        runAll(PromiseBoundsTest.class, sections);
    }

    /** A tape of so many bytes, all 0. */
    private static ToyHouse taped(ToyHouse x, int bytes) {
        for (int i = 0; i < bytes; i += 20) {
            x.feed(0, 0, 0, 0, 0);
        }
        return x;
    }

    static void p01newObject() {
        of("Promise 1", "DAY 0; no KINDS, TOYS, FAMILIES, RULES");
        ToyHouse x = new ToyHouse();
        for (int what = 0; what <= 8; what++) {
            due("count " + what, x.count(what), 0);
        }
        due("no kind 0", x.pieces(0, 0, 1, 1), false);
        due("no toy 0", x.toyIs(0, 0), NONE);
        due("no family 0", x.owes(0), NONE);
        due("no recall 0", x.recalled(0, 0), NONE);
        due("the first kind", x.kind(0, 1, 0, 0, 1), 0);
        due("the first toy", x.toy(0, 0), 0);
        due("the first family", x.family(0, 0, 0), 0);
        due("the first recall", x.recall(5, 0, 0), 0);
        due("houses stand apart", new ToyHouse().count(1), 0);
    }

    static void p02now() {
        of("Promise 2", "NOW is a DAY: true; false: no such one, it is past");
        ToyHouse x = new ToyHouse();
        due("day 5", x.now(5), true);
        due("day 5 again", x.now(5), true);
        due("day 4", x.now(4), false);
        due("day 0", x.now(0), false);
        due("day -1", x.now(-1), false);
        due("day 6", x.now(6), true);
        due("day 700", x.now(700), false);
        due("NOW", x.count(0), 6);
        due("day 699", x.now(699), true);
        due("day 698", x.now(698), false);
        due("day 699 again", x.now(699), true);
        due("NOW", x.count(0), 699);
    }

    static void p03kind() {
        of("Promise 3", "NONE: no such ones, 8 are there");
        ToyHouse x = house(7, 0, 0);
        due("a wrong one", x.kind(16, 1, 0, 0, 1), NONE);
        due("seven are there", x.count(1), 7);
        due("the eighth", x.kind(15, 20000, 9, 5, 1000), 7);
        due("a ninth", x.kind(15, 20000, 9, 5, 1000), NONE);
        due("eight are there", x.count(1), 8);
    }

    static void p04pieces() {
        of("Promise 4", "false: no such ones, a TOY of it is there");
        ToyHouse x = house(2, 0, 1);
        due("no toy is there", x.pieces(0, 0, 3, 1), true);
        x.toy(1, 0);
        due("a toy of another kind is there", x.pieces(0, 0, 4, 1), true);
        due("a toy of it is there", x.pieces(1, 0, 4, 1), false);
        x.toy(0, 0);
        due("a toy of it is there, too", x.pieces(0, 0, 5, 1), false);
        due("as before", x.toyIs(1, 10), 4);
        x.cull(1);
        due("a culled one is there", x.pieces(0, 0, 5, 1), false);
        x.lend(0, 0);
        due("a lent one is there", x.pieces(1, 0, 4, 1), false);
        x.lost(0);
        due("a lost one is there", x.pieces(1, 0, 4, 1), false);
        due("no such kind", x.pieces(2, 0, 1, 1), false);
        due("no such kind", x.pieces(-1, 0, 1, 1), false);
    }

    static void p05toy() {
        of("Promise 5", "NONE: no such ones, 16 are there");
        ToyHouse x = house(2, 15, 0);
        due("of no kind", x.toy(2, 0), NONE);
        due("of kind -1", x.toy(-1, 0), NONE);
        due("of batch 100", x.toy(0, 100), NONE);
        due("fifteen are there", x.count(2), 15);
        due("the 16th", x.toy(1, 99), 15);
        due("a 17th", x.toy(1, 99), NONE);
        x.cull(0);
        due("culled ones are there", x.toy(1, 99), NONE);
        due("sixteen are there", x.count(2), 16);
    }

    static void p06family() {
        of("Promise 6", "NONE: no such ones, 10 are there");
        ToyHouse x = house(0, 0, 9);
        due("a wrong one", x.family(0, 10, 0), NONE);
        due("nine are there", x.count(3), 9);
        due("the tenth", x.family(15, 9, 4), 9);
        due("an eleventh", x.family(15, 9, 4), NONE);
        due("ten are there", x.count(3), 10);
    }

    static void p07bag() {
        of("Promise 7", "true; false: no such weight");
        ToyHouse x = house(1, 1, 0);
        due("7", x.bag(7), true);
        due("-1", x.bag(-1), false);
        due("2001", x.bag(2001), false);
        due("7 still", x.toyIs(0, 8), 7);
        due("0", x.bag(0), true);
        due("0 then", x.toyIs(0, 8), 0);
        due("2000", x.bag(2000), true);
        due("2000 then", x.toyIs(0, 8), 2000);
    }

    static void p08telling() {
        of("Promise 8", "true; false: no such number");
        ToyHouse x = house(1, 3, 1);
        due("7", x.telling(7), true);
        due("-1", x.telling(-1), false);
        due("31", x.telling(31), false);
        x.lend(0, 0);
        due("7 still, not known", x.where(0, 0, 6), 0);
        due("7 still, known", x.where(0, 0, 7), 1);
        due("30", x.telling(30), true);
        x.lend(1, 0);
        due("30, not known", x.where(1, 0, 29), 0);
        due("30, known", x.where(1, 0, 30), 1);
        due("0", x.telling(0), true);
        x.lend(2, 0);
        due("0, known", x.where(2, 0, 0), 1);
    }

    static void p09feed() {
        of("Promise 9", "how many it has; NONE if that would be more than 220");
        ToyHouse x = new ToyHouse();
        for (int bytes = 20; bytes <= 220; bytes += 20) {
            due("feed to " + bytes, x.feed(1, 2, 3, 4, 5), bytes);
        }
        due("feed to 240", x.feed(1, 2, 3, 4, 5), NONE);
        due("220", x.count(5), 220);
        due("feed to 240 again", x.feed(MIN, MAX, -1, 0, 1), NONE);
        x.rules(1);
        due("feed an empty one", x.feed(1, 2, 3, 4, 5), 20);
    }

    static void p09highestByteFirst() {
        of("Promise 9", "Twenty bytes come behind the tape, the highest of each int first");
        ToyHouse x = house();
        int text = 'a' << 24 | '(' << 16 | '1' << 8 | '=';
        due("a text", x.feed(text, '1' << 24 | ')' << 16, 0, 0, 0), 20);
        due("its rules", x.rules(6), 1);
        x.feed(0, 0, 0, 0, text);
        x.feed('1' << 24 | ')' << 16, 0, 0, 0, 0);
        due("the first bytes are those before", x.rules(20), -1000);
        x.feed(text, '1' << 24 | '|' << 16 | '1' << 8 | '<', '1' << 24 | '|' << 16 | '1' << 8 | '>',
            '1' << 24 | '|' << 16 | '2' << 8 | '=', '1' << 24 | '|' << 16 | '3' << 8 | '=');
        x.feed('1' << 24 | ')' << 16, 0, 0, 0, 0);
        due("behind the tape", x.rules(22), 1);
        x.lend(0, 0);
        x.feed(0x02000100, 0x0000FFFF, -1, -1, -1);
        due("six bytes", x.back(0), 0);
        x.lend(0, 0);
        x.feed(0x02000180, 0, 0, 0, 0);
        due("a byte above 127", x.back(0), -2);
    }

    static void p10rules() {
        of("Promise 10", "RULES by the first n bytes of the tape (1 to 200; empty then)");
        bounds("rules", 1, 200, n -> taped(new ToyHouse(), 220).rules(n) == -1000);
        ToyHouse x = new ToyHouse();
        Dues.feedBytes(x, Dues.bytesOf("a(1=1);a(1=1)"));
        due("the first six", x.rules(6), 1);
        due("empty then", x.count(5), 0);
        Dues.feedBytes(x, Dues.bytesOf("a(1=1);a(1=1)"));
        due("the first seven", x.rules(7), -1007);
        due("empty then, too", x.count(5), 0);
        Dues.feedBytes(x, Dues.bytesOf("a(1=1);a(1=1)"));
        due("all", x.rules(13), 2);
        due("one byte", Dues.rules(x, "a"), -1001);
    }

    static void p10inPlace() {
        of("Promise 10", "in place of those before: how many CLAUSES");
        ToyHouse x = house();
        rules(x, "d5(1=1);a(1=1)");
        due("clauses", x.count(4), 2);
        due("d of the first", x.lend(0, 0), 5);
        rules(x, "a(1=1)");
        due("clauses then", x.count(4), 1);
        due("no d then", x.lend(1, 0), 21);
        rules(x, "d200(1=1)" + ";a(1=1)".repeat(15));
        due("sixteen", x.count(4), 16);
        due("d of the last", x.lend(2, 0), 200);
        String[] gone = {"a(1=2)", "u(1=1)", "d5(1=1)", "n9(1=1)"};
        for (String clause : gone) {
            x = house();
            x.waits(0, 0);
            rules(x, "o(1=2);" + clause);
            due(clause + " is there", x.not(0, 0) == 0 && x.next(0, 1) == 0, clause.startsWith("d"));
            for (int i = 0; i < 3; i++) {
                rules(x, "o(1=2)");
                due("not barred by " + clause + " before", x.not(0, 0), 0);
                due("of no turn by " + clause + " before", x.next(0, 1), 0);
            }
            due("nor lent by " + clause + " before", x.lend(0, 0), 21);
        }
    }

    static void p10fault() {
        of("Promise 10", "a FAULT: -1000 times its number, less its place (the TEXT before stays)");
        ToyHouse x = house();
        rules(x, "d5(1=1);a(y=4)");
        due("1 at 0", Dues.rules(x, "?"), -1000);
        due("1 at 7", Dues.rules(x, "a(1=1);"), -1007);
        due("1 at 200", Dues.rules(x, "a(" + "0+".repeat(98) + "00"), -1200);
        due("2 at 6", Dues.rules(x, "d123456(1=1)"), -2006);
        due("4 at 112", Dues.rules(x, "u(1=1);".repeat(17)), -4112);
        due("5 at 7", Dues.rules(x, "u(((((((1=1)))))))"), -5007);
        due("5 at 197", Dues.rules(x, "u(" + "0+".repeat(94) + "0=[[[[[[[["), -5197);
        due("clauses of the text before", x.count(4), 2);
        due("a of the text before", x.not(0, 1), 6);
        due("no u of the others", x.not(0, 0), 0);
        due("d of the text before", x.lend(0, 0), 5);
        due("a fault with nothing before", Dues.rules(new ToyHouse(), "?"), -1000);
    }

    static void p10none() {
        of("Promise 10", "NONE: no such n, it has not so many (the tape stays)");
        ToyHouse x = taped(new ToyHouse(), 20);
        due("0", x.rules(0), NONE);
        due("-1", x.rules(-1), NONE);
        due("21 of 20", x.rules(21), NONE);
        due("the tape stays", x.count(5), 20);
        due("20 of 20", x.rules(20), -1000);
        due("1 of none", x.rules(1), NONE);
        x = taped(new ToyHouse(), 220);
        due("201 of 220", x.rules(201), NONE);
        due("220 of 220", x.rules(220), NONE);
        due("the tape stays", x.count(5), 220);
        due("200 of 220", x.rules(200), -1000);
        due("the tape is empty", x.count(5), 0);
    }

    static void p11not() {
        of("Promise 11", "(0: it could); NONE: no such ones");
        bounds("toy", 0, 2, t -> house().not(t, 0) == 0);
        bounds("family", 0, 1, f -> house().not(0, f) == 0);
        due("no toys", house(1, 0, 1).not(0, 0), NONE);
        due("no families", house(1, 1, 0).not(0, 0), NONE);
        ToyHouse x = house();
        due("it could", x.not(0, 0), 0);
        due("it was not lent by that", x.toyIs(0, 0), 0);
        x.lend(0, 0);
        due("it could not", x.not(0, 0), 1);
    }

    static void p12lend() {
        of("Promise 12", "NONE: it can't, no such ones, 300 were LENT");
        bounds("toy", 0, 2, t -> house().lend(t, 0) == 21);
        bounds("family", 0, 1, f -> house().lend(0, f) == 21);
        ToyHouse x = house();
        due("it can", x.lend(0, 0), 21);
        due("it can't", x.lend(0, 0), NONE);
        due("once", x.toyIs(0, 4), 1);
        due("no toys", house(1, 0, 1).lend(0, 0), NONE);
    }

    /**
     * 300 can't be lent within 512 calls (a lending behind the 16th wants lend, feed and back), and behind them all
     * answers are free: the class keeps to the sentence all the same.
     */
    static void p12lend300() {
        of("Promise 12", "300 were LENT");
        ToyHouse x = house(1, 16, 1);
        for (int i = 1; i <= 298; i++) {
            lendAndBack(x, i % 16, 0);
        }
        due("the 299th", x.lend(0, 0), 21);
        due("the 300th", x.lend(1, 0), 21);
        due("a 301st", x.lend(2, 0), NONE);
        due("it could be", x.not(2, 0), 0);
        due("it is in the house", x.toyIs(2, 0), 0);
        due("the 299th comes back", back(x, 0), 0);
        due("the 300th is lost", x.lost(1), 0);
        due("acts", x.count(8), 600);
        due("where the last one was", x.where(1, 0, 0), 20);
        due("a 301st still", x.lend(0, 0), NONE);
    }

    static void p13back() {
        of("Promise 13", "told by the first 6 bytes of the tape (SORTS 0 to 5; empty then)");
        ToyHouse x = house(1, 0, 1);
        for (int sort = 0; sort <= 5; sort++) {
            x.pieces(0, sort, 6, 1);
        }
        x.toy(0, 0);
        x.lend(0, 0);
        x.feed(0x01020304, 0x05060707, -1, -1, -1);
        due("six bytes", x.back(0), 0);
        for (int sort = 0; sort <= 5; sort++) {
            due("sort " + sort, x.toyIs(0, 10 + sort), sort + 1);
        }
        due("empty then", x.count(5), 0);
        x.lend(0, 0);
        x.feed(0x01020304, 0x05060707, -1, -1, -1);
        x.feed(0, 0, 0, 0, 0);
        due("of forty bytes the first", x.back(0), 0);
        due("sort 5", x.toyIs(0, 15), 6);
        due("empty then, too", x.count(5), 0);
    }

    static void p13cannotBe() {
        of("Promise 13", "-2: the tape says what can't be (nothing else happens)");
        ToyHouse x = house();
        rules(x, "f5(1=1);p5(1=1);w(1=1)");
        x.lend(0, 0);
        x.now(9);
        due("one more", back(x, 0, 3, 0, 1), -2);
        due("empty then", x.count(5), 0);
        due("lent still", x.toyIs(0, 0), 1);
        due("to family 0", x.toyIs(0, 1), 0);
        due("due", x.toyIs(0, 2), 21);
        due("wear", x.toyIs(0, 3), 0);
        due("not to be washed", x.toyIs(0, 5), 0);
        due("nothing lacks", x.toyIs(0, 7), 0);
        due("nothing is owed", x.owes(0), 0);
        due("acts", x.count(8), 1);
        due("where", x.where(0, 9, 9), 1);
        due("a sort of which its kind has none", back(x, 0, 2, 1, 1), -2);
        due("as it had", back(x, 0, 2, 0, 1), 5);
        due("in the house", x.toyIs(0, 0), 0);
    }

    static void p13none() {
        of("Promise 13", "NONE: it is not LENT, no such one, the tape has not so many (it stays)");
        ToyHouse x = taped(house(1, 2, 1), 20);
        due("not lent", x.back(0), NONE);
        due("no such one", x.back(2), NONE);
        due("no such one", x.back(-1), NONE);
        due("the tape stays", x.count(5), 20);
        x.lend(0, 0);
        x.lend(1, 0);
        due("lent", x.back(0), 0);
        due("the tape is empty", x.back(1), NONE);
        due("lent still", x.toyIs(1, 0), 1);
        x.lost(1);
        taped(x, 20);
        due("lost", x.back(1), NONE);
        x.cull(0);
        due("culled", x.back(0), NONE);
        due("the tape stays", x.count(5), 20);
    }

    static void p14lost() {
        of("Promise 14", "what is owed for its PIECES; NONE: it is not LENT, no such one");
        ToyHouse x = house();
        rules(x, "p5(1=1);f9(1=1)");
        due("not lent", x.lost(0), NONE);
        due("no such one", x.lost(3), NONE);
        due("no such one", x.lost(-1), NONE);
        x.lend(0, 0);
        due("lent", x.lost(0), 15);
        due("lost", x.lost(0), NONE);
        due("owed once", x.owes(0), 15);
        x.cull(1);
        due("culled", x.lost(1), NONE);
        due("acts", x.count(8), 2);
    }

    static void p15wash() {
        of("Promise 15", "true; false: it need not be, no such one");
        ToyHouse x = house();
        due("it need not be", x.wash(0), false);
        due("no such one", x.wash(3), false);
        due("no such one", x.wash(-1), false);
        makeDirty(x, 0, 0, 2, 0, 1);
        due("another need not be", x.wash(1), false);
        due("it must be", x.wash(0), true);
        due("once", x.wash(0), false);
        due("clean", x.toyIs(0, 5), 0);
    }

    static void p16toyIs() {
        of("Promise 16", "NONE for others.");
        ToyHouse x = house();
        x.lend(0, 0);
        int[] want = {1, 0, 21, 0, 1, 0, 0, 0, 45, NONE, 2, 0, 1, 0, 0, 0, NONE};
        for (int what = 0; what < want.length; what++) {
            due("what " + what, x.toyIs(0, what), want[what]);
        }
        due("what -1", x.toyIs(0, -1), NONE);
        due("what MIN", x.toyIs(0, MIN), NONE);
        due("what MAX", x.toyIs(0, MAX), NONE);
        bounds("toy", 0, 2, t -> house().toyIs(t, 0) == 0);
    }

    static void p16noneThere() {
        of("Promise 16", "1 the FAMILY (NONE), 2 the DAY on which it is DUE (NONE)");
        ToyHouse x = house();
        due("of no family", x.toyIs(0, 1), NONE);
        due("not due", x.toyIs(0, 2), NONE);
        x.lend(0, 1);
        due("of family 1", x.toyIs(0, 1), 1);
        due("due", x.toyIs(0, 2), 21);
        back(x, 0, 2, 0, 1);
        due("back, of no family", x.toyIs(0, 1), NONE);
        due("back, not due", x.toyIs(0, 2), NONE);
        x.lend(0, 0);
        due("of family 0", x.toyIs(0, 1), 0);
        x.lost(0);
        due("lost, of no family", x.toyIs(0, 1), NONE);
        due("lost, not due", x.toyIs(0, 2), NONE);
    }

    static void p17weigh() {
        of("Promise 17", "NONE: no such ones (a weight 0 to 200000)");
        bounds("weight", 0, 200000, weight -> house().weigh(0, weight, 0, 0) != NONE);
        bounds("toy", 0, 2, t -> house().weigh(t, 45, 0, 0) == 1);
        bounds("e", 0, 2000, e -> house().weigh(0, 45, e, 0) != NONE);
        int[] want = {1, 63, 0, 0, NONE, NONE, NONE, NONE, NONE, NONE, 0, 0, 0, 0, 0, 0, NONE};
        for (int what = 0; what < want.length; what++) {
            due("what " + what, house().weigh(0, 45, 0, what), want[what]);
        }
        due("what -1", house().weigh(0, 45, 0, -1), NONE);
        due("what MAX", house().weigh(0, 45, 0, MAX), NONE);
        int[] wrong = {-1, 4, 9, 16, MIN, MAX};
        for (int what : wrong) {
            due("no way, what " + what, house().weigh(0, 46, 0, what), NONE);
        }
    }

    static void p17noWay() {
        of("Promise 17", "-2: no way");
        int[] whats = {0, 1, 2, 3, 10, 15};
        for (int what : whats) {
            due("no way, what " + what, house().weigh(0, 46, 0, what), -2);
            due("a way, what " + what, house().weigh(0, 46, 1, what) >= 0, true);
        }
        due("200000 by 2000", house().weigh(0, 200000, 2000, 0), -2);
    }

    static void p18whole() {
        of("Promise 18", "what 0 how many, 1 MOVED, 2 which are made whole (bits). NONE for others.");
        ToyHouse x = house();
        int[] want = {3, 0, 7, NONE};
        for (int what = 0; what < want.length; what++) {
            due("what " + what, x.whole(0, what), want[what]);
        }
        due("what -1", x.whole(0, -1), NONE);
        bounds("kind", 0, 0, k -> x.whole(k, 0) == 3);
    }

    static void p19waits() {
        of("Promise 19", "true; false: no such ones, it does");
        bounds("family", 0, 1, f -> house().waits(f, 0));
        bounds("kind", 0, 0, k -> house().waits(0, k));
        ToyHouse x = house();
        due("it does not", x.waits(0, 0), true);
        due("it does", x.waits(0, 0), false);
        due("one waits", x.count(10), 1);
    }

    static void p20leaves() {
        of("Promise 20", "true; false: no such ones, it does not");
        ToyHouse x = house();
        due("it does not", x.leaves(0, 0), false);
        x.waits(0, 0);
        due("no such family", x.leaves(2, 0), false);
        due("no such family", x.leaves(-1, 0), false);
        due("no such kind", x.leaves(0, 1), false);
        due("no such kind", x.leaves(0, -1), false);
        due("the other does not", x.leaves(1, 0), false);
        due("it does", x.leaves(0, 0), true);
        due("not any more", x.leaves(0, 0), false);
        due("nobody waits", x.count(10), 0);
    }

    static void p21next() {
        of("Promise 21", "-1000000: nobody (of 0, 1), no such ones");
        ToyHouse x = house();
        due("nobody", x.next(0, 0), NOBODY);
        due("nobody's turn", x.next(0, 1), NOBODY);
        due("none wait", x.next(0, 2), 0);
        x.waits(1, 0);
        due("who", x.next(0, 0), 1);
        due("of what turn", x.next(0, 1), 0);
        due("one waits", x.next(0, 2), 1);
        due("what 3", x.next(0, 3), NOBODY);
        due("what -1", x.next(0, -1), NOBODY);
        for (int what = 0; what <= 2; what++) {
            due("no such kind, what " + what, x.next(1, what), NOBODY);
            due("no such kind, what " + what, x.next(-1, what), NOBODY);
        }
        x.leaves(1, 0);
        due("nobody again", x.next(0, 0), NOBODY);
    }

    static void p22buying() {
        of("Promise 22", "0 to 7 how many of that KIND; NONE: no such ones");
        bounds("coin", 0, 60000, coin -> house(1, 0, 0).buying(coin, 1, 8) == 0);
        bounds("weeks", 1, 99, weeks -> house(1, 0, 0).buying(0, weeks, 8) == 0);
        ToyHouse x = house(8, 0, 1);
        x.waits(0, 7);
        allBounds("what", -1, 8, what -> x.buying(100, 3, what) >= 0);
        due("how many more", x.buying(100, 3, -1), 1);
        due("of kind 7", x.buying(100, 3, 7), 1);
        due("of kind 6", x.buying(100, 3, 6), 0);
        due("its coin", x.buying(100, 3, 8), 100);
        due("what -2", x.buying(100, 3, -2), NONE);
        ToyHouse y = house(7, 0, 0);
        due("the last kind", y.buying(0, 1, 6), 0);
        due("no such kind", y.buying(0, 1, 7), NONE);
        due("coin without kinds", new ToyHouse().buying(60000, 99, 8), 0);
    }

    static void p23van() {
        of("Promise 23", "what 0 the set of TOYS, 1 how many FAMILIES find one; NONE: no such ones");
        ToyHouse x = house();
        x.waits(1, 0);
        bounds("village", 0, 4, village -> x.van(village, 1, 0) >= 0);
        bounds("n", 1, 6, n -> x.van(3, n, 0) == 1);
        bounds("what", 0, 1, what -> x.van(3, 1, what) == 1);
        due("village 3", x.van(3, 6, 1), 1);
        due("village 0", x.van(0, 6, 1), 0);
    }

    static void p24minutes() {
        of("Promise 24", "One PIECE of a SORT takes so many minutes: true; false: no such ones");
        bounds("sort", 0, 5, sort -> new ToyHouse().minutes(sort, 10));
        bounds("minutes", 0, 600, n -> new ToyHouse().minutes(5, n));
        ToyHouse x = house();
        lendAndBack(x, 0, 0, 1, 0, 1);
        x.minutes(0, 7);
        x.minutes(0, 601);
        x.minutes(0, -1);
        due("7 still", x.mending(6000, 1), 7);
        x.minutes(0, 600);
        due("600", x.mending(6000, 1), 600);
    }

    static void p25mending() {
        of("Promise 25", "what 0 the set, 1 its minutes, 2 how many it counts for; NONE: no such ones");
        bounds("minutes", 0, 6000, all -> house().mending(all, 0) == 0);
        ToyHouse x = house();
        lendAndBack(x, 1, 0, 1, 0, 1);
        x.waits(0, 0);
        int[] want = {2, 10, 2, NONE};
        for (int what = 0; what < want.length; what++) {
            due("what " + what, x.mending(10, what), want[what]);
            due("too few, what " + what, x.mending(9, what), what < 3 ? 0 : NONE);
        }
        due("what -1", x.mending(10, -1), NONE);
    }

    static void p26mend() {
        of("Promise 26", "NONE: it is not IN THE HOUSE, it is whole, no such one");
        ToyHouse x = house();
        due("whole", x.mend(0), NONE);
        due("no such one", x.mend(3), NONE);
        due("no such one", x.mend(-1), NONE);
        lendAndBack(x, 0, 0);
        lendAndBack(x, 1, 0);
        lendAndBack(x, 2, 0, 1, 0, 1);
        x.lend(0, 0);
        due("lent", x.mend(0), NONE);
        x.lost(0);
        due("lost", x.mend(0), NONE);
        x.cull(1);
        due("culled", x.mend(1), NONE);
        due("one lacks", x.mend(2), 1);
        due("whole then", x.mend(2), NONE);
        due("what the lost one lacks", x.toyIs(0, 7), 3);
    }

    static void p27rota() {
        of("Promise 27", "NONE: it is not IN THE HOUSE, it need not be, no such ones");
        ToyHouse x = house();
        due("it need not be", x.rota(1, 0), NONE);
        makeDirty(x, 0, 0, 2, 0, 1);
        due("it must be", x.rota(1, 0), 0);
        due("c 0", x.rota(0, 0), NONE);
        due("c 10", x.rota(10, 0), NONE);
        due("c 9", x.rota(9, 0), 0);
        due("no such one", x.rota(1, 3), NONE);
        due("no such one", x.rota(1, -1), NONE);
        x.cull(0);
        due("culled", x.rota(1, 0), NONE);
        x.lend(1, 0);
        due("lent", x.rota(1, 1), NONE);
        x.lost(1);
        due("lost", x.rota(1, 1), NONE);
    }

    static void p28recall() {
        of("Promise 28", "its number; NONE: no such ones, 10 are there");
        bounds("maker", 0, 5, maker -> new ToyHouse().recall(maker, 0, 0) == 0);
        bounds("from", 0, 50, from -> new ToyHouse().recall(0, from, 50) == 0);
        bounds("to", 50, 99, to -> new ToyHouse().recall(0, 50, to) == 0);
        ToyHouse x = new ToyHouse();
        for (int r = 0; r < 9; r++) {
            x.recall(0, 0, 0);
        }
        due("nine", x.count(6), 9);
        due("a wrong one", x.recall(6, 0, 0), NONE);
        due("the tenth", x.recall(0, 0, 0), 9);
        due("an eleventh", x.recall(0, 0, 0), NONE);
        due("ten", x.count(6), 10);
    }

    static void p29told() {
        of("Promise 29", "true; false: no such ones, it was");
        ToyHouse x = house();
        due("no recall", x.told(0, 0), false);
        x.recall(1, 5, 5);
        due("no such recall", x.told(1, 0), false);
        due("no such recall", x.told(-1, 0), false);
        due("no such family", x.told(0, 2), false);
        due("no such family", x.told(0, -1), false);
        due("it was not", x.told(0, 0), true);
        due("it was", x.told(0, 0), false);
        due("the other was not", x.told(0, 1), true);
        x.recall(1, 5, 5);
        due("of another recall it was not", x.told(1, 0), true);
    }

    static void p29toldOnce() {
        of("Promise 29", "FAMILY f is told of RECALL r");
        ToyHouse x = house();
        x.lend(0, 0);
        x.recall(1, 5, 5);
        x.now(1);
        x.told(0, 0);
        x.now(2);
        due("once", x.told(0, 0), false);
        due("in time still", x.recalled(0, 2), 1);
        due("not open", x.recalled(0, 3), 0);
    }

    static void p30recalled() {
        of("Promise 30", "what 0 TOYS (bits), 1 FAMILIES that had one then (bits), 2 IN TIME (how many), 3 OPEN (bits). NONE for others.");
        ToyHouse x = house(1, 16, 10);
        x.lend(15, 9);
        x.lend(0, 0);
        x.recall(0, 15, 15);
        x.recall(0, 0, 0);
        int[] last = {1 << 15, 1 << 9, 0, 1 << 9, NONE};
        int[] first = {1, 1, 0, 1, NONE};
        for (int what = 0; what < last.length; what++) {
            due("the last, what " + what, x.recalled(0, what), last[what]);
            due("the first, what " + what, x.recalled(1, what), first[what]);
        }
        due("what -1", x.recalled(0, -1), NONE);
        bounds("recall", 0, 1, r -> x.recalled(r, 0) > 0);
        x.told(0, 9);
        due("in time", x.recalled(0, 2), 1);
        due("not open", x.recalled(0, 3), 0);
    }

    static void p31gift() {
        of("Promise 31", "false: no such ones (0 a VILLAGE, 1 a FAMILY, 2 a DAY, 3 a NEED), 20 are there");
        bounds("toy", 0, 2, t -> house().gift(t, 0, 0));
        bounds("term", 0, 3, term -> house().gift(0, term, 0));
        bounds("village", 0, 4, n -> house().gift(0, 0, n));
        bounds("family", 0, 1, n -> house().gift(0, 1, n));
        bounds("day", 0, 699, n -> house().gift(0, 2, n));
        bounds("need", 0, 9, n -> house().gift(0, 3, n));
        ToyHouse x = house();
        for (int i = 0; i < 19; i++) {
            x.gift(0, 2, 699);
        }
        due("a wrong one", x.gift(0, 4, 0), false);
        due("19", x.count(7), 19);
        due("the 20th", x.gift(1, 2, 699), true);
        due("a 21st", x.gift(2, 2, 699), false);
        due("20", x.count(7), 20);
        ToyHouse y = house();
        y.now(9);
        due("a past day", y.gift(0, 2, 8), true);
        due("it bars", y.not(0, 0), 5);
    }

    static void p32owes() {
        of("Promise 32", "What FAMILY f owes; NONE: no such one");
        bounds("family", 0, 1, f -> house().owes(f) == 0);
        due("no families", house(1, 1, 0).owes(0), NONE);
    }

    static void p33pays() {
        of("Promise 33", "what it owes then; NONE: no such ones (1 to what it owes)");
        bounds("pence", 1, 7, pence -> owing().pays(0, pence) >= 0);
        due("a penny", owing().pays(0, 1), 6);
        bounds("family that owes", 0, 0, f -> owing().pays(f, 7) == 0);
        ToyHouse x = owing();
        due("more than it owes", x.pays(0, 8), NONE);
        due("it owes as much still", x.owes(0), 7);
        due("some", x.pays(0, 3), 4);
        due("more than it owes then", x.pays(0, 5), NONE);
        due("all", x.pays(0, 4), 0);
        due("nothing is owed", x.pays(0, 1), NONE);
    }

    private static ToyHouse owing() {
        ToyHouse x = house();
        rules(x, "f7(1=1)");
        lendAndBack(x, 0, 0, 2, 0, 1);
        return x;
    }

    static void p34forgiving() {
        of("Promise 34", "what 0 how many behind FORGIVEN ones, 1 of them LATE, 2 how many behind others, 3 of them LATE. NONE for others.");
        bounds("what", 0, 3, what -> new ToyHouse().forgiving(what) == 0);
        ToyHouse x = house(1, 3, 2);
        rules(x, "d1(1=1);f1(1=1);o(t=0)");
        lendAndBack(x, 0, 0);
        lendAndBack(x, 1, 0);
        x.lend(1, 0);
        x.now(9);
        back(x, 1);
        due("behind forgiven ones", x.forgiving(0), 1);
        due("of them late", x.forgiving(1), 0);
        due("behind others", x.forgiving(2), 1);
        due("of them late", x.forgiving(3), 1);
    }

    static void p35peak() {
        of("Promise 35", "what 0 the week, 1 how many; NONE for others");
        ToyHouse x = house();
        x.now(70);
        x.waits(0, 0);
        x.waits(1, 0);
        due("the week", x.peak(0), 8);
        due("how many", x.peak(1), 2);
        due("what 2", x.peak(2), NONE);
        due("what -1", x.peak(-1), NONE);
        due("what MIN", x.peak(MIN), NONE);
        due("what MAX", x.peak(MAX), NONE);
    }

    static void p36unwanted() {
        of("Promise 36", "UNWANTED for d DAYS, as bits; NONE: no such number");
        ToyHouse x = house(1, 16, 0);
        x.now(699);
        bounds("d", 1, 700, d -> x.unwanted(d) == (d == 700 ? 0 : 0xFFFF));
        due("for 699", x.unwanted(699), 0xFFFF);
        due("none of a new house", new ToyHouse().unwanted(1), 0);
        due("on the first day", house().unwanted(1), 0);
    }

    static void p37why() {
        of("Promise 37", "0: it is not; NONE: no such ones");
        ToyHouse x = house();
        x.now(5);
        bounds("toy", 0, 2, t -> x.why(t, 5) == 8);
        bounds("d", 1, 700, d -> x.why(0, d) >= 0);
        due("for 5", x.why(0, 5), 8);
        due("for 6", x.why(0, 6), 0);
        x.lend(0, 0);
        due("lent", x.why(0, 5), 0);
    }

    static void p38cull() {
        of("Promise 38", "true; false: it is not IN THE HOUSE, no such one");
        bounds("toy", 0, 2, t -> house().cull(t));
        ToyHouse x = house();
        x.lend(0, 0);
        due("lent", x.cull(0), false);
        back(x, 0, 2, 0, 1);
        due("in the house", x.cull(0), true);
        due("culled", x.cull(0), false);
        x.lend(1, 0);
        x.lost(1);
        due("lost", x.cull(1), false);
        due("lost still", x.toyIs(1, 0), 2);
    }

    static void p39where() {
        of("Promise 39", "on a DAY (to NOW), as was known on a DAY (from that one to 699)");
        ToyHouse x = house();
        x.now(10);
        bounds("day", 0, 10, day -> x.where(0, day, 699) == 0);
        bounds("known", 7, 699, known -> x.where(0, 7, known) == 0);
        bounds("toy", 0, 2, t -> x.where(t, 10, 10) == 0);
        due("of now, known before", x.where(0, 10, 9), NONE);
        due("of now, known now", x.where(0, 10, 10), 0);
        due("of now, known later", x.where(0, 10, 11), 0);
    }

    static void p39answers() {
        of("Promise 39", "0 IN THE HOUSE, 1 + f LENT to FAMILY f, 20 LOST; NONE: no such ones. (CULLED ones: as they came last.)");
        ToyHouse x = house(1, 3, 10);
        due("in the house", x.where(0, 0, 0), 0);
        x.lend(0, 0);
        x.lend(1, 9);
        due("lent to family 0", x.where(0, 0, 0), 1);
        due("lent to family 9", x.where(1, 0, 0), 10);
        x.lost(1);
        due("lost", x.where(1, 0, 0), 20);
        x.now(1);
        back(x, 0);
        x.cull(0);
        due("culled, as it came last", x.where(0, 1, 1), 0);
        due("culled, as it was before", x.where(0, 0, 0), 1);
        x.cull(2);
        due("culled, never lent", x.where(2, 1, 1), 0);
        due("no such one", x.where(3, 1, 1), NONE);
    }

    static void p40check() {
        of("Promise 40", "the place of the first number that is not so (2 n: some are lacking)");
        due("right", Dues.check(house(), 0, 2, 0, 2, 2, 1), NONE);
        due("at 0", Dues.check(house(), 0, 2, 1, 2, 2, 1), 0);
        due("at 1", Dues.check(house(), 0, 2, 0, 1, 2, 1), 1);
        due("at 2", Dues.check(house(), 0, 2, 0, 2, 3, 1), 2);
        due("at 3", Dues.check(house(), 0, 2, 0, 2, 2, 2), 3);
        due("the first of all", Dues.check(house(), 0, 2, 5, 5, 5, 5), 0);
        due("none told", Dues.check(house(), 0, 0, 0, 2, 2, 1), 0);
        due("one told", Dues.check(house(), 0, 1, 0, 2, 2, 1), 2);
        due("one too many", Dues.check(house(), 0, 3, 0, 2, 2, 1, 0, 2), 4);
        due("without pieces, none told", house(1, 1, 0).check(0, 0), NONE);
        due("without pieces, one told", taped(house(1, 1, 0), 20).check(0, 1), 0);
    }

    static void p40fourBytes() {
        of("Promise 40", "by the first 2 n numbers of the tape (four bytes each; empty then)");
        ToyHouse x = house();
        due("right", Dues.check(x, 0, 2, 0, 2, 2, 1, 9, 9), NONE);
        due("empty then", x.count(5), 0);
        due("the highest byte", Dues.check(x, 0, 2, 1 << 24, 2, 2, 1), 0);
        due("the second byte", Dues.check(x, 0, 2, 0, 2 | 1 << 16, 2, 1), 1);
        due("the third byte", Dues.check(x, 0, 2, 0, 2, 2 | 1 << 8, 1), 2);
        due("below 0", Dues.check(x, 0, 2, 0, 2, 2, -1), 3);
        due("the highest bit", Dues.check(x, 0, 2, 0, MIN | 2, 2, 1), 1);
        due("empty then, too", x.count(5), 0);
        taped(x, 40);
        due("not right", x.check(0, 0), 0);
        due("empty of none told", x.count(5), 0);
    }

    static void p40none() {
        of("Promise 40", "-2: no such TOY, it has not so many (the tape stays)");
        ToyHouse x = taped(house(), 20);
        due("no such toy", x.check(3, 0), -2);
        due("no such toy", x.check(-1, 0), -2);
        due("24 of 20", x.check(0, 3), -2);
        due("n -1", x.check(0, -1), -2);
        due("n MAX", x.check(0, MAX), -2);
        due("n MIN", x.check(0, MIN), -2);
        due("n of which 8 times is 0", x.check(0, 1 << 29), -2);
        due("the tape stays", x.count(5), 20);
        due("16 of 20", x.check(0, 2), 1);
        due("8 of none", x.check(0, 1), -2);
        due("0 of none", x.check(0, 0), 0);
        taped(x, 220);
        due("224 of 220", x.check(0, 28), -2);
        due("the tape stays", x.count(5), 220);
        due("216 of 220", x.check(0, 27), 1);
        taped(x, 40);
        due("48 of 40", x.check(0, 6), -2);
        due("40 of 40", x.check(0, 5), 1);
    }

    static void p41count() {
        of("Promise 41", "10 + k how many wait for KIND k, 20 + f how many TOYS FAMILY f has. NONE for others.");
        ToyHouse x = house(8, 16, 10);
        x.waits(0, 0);
        x.waits(1, 7);
        x.waits(9, 7);
        x.lend(3, 0);
        x.lend(4, 9);
        x.lend(5, 9);
        for (int what = -2; what <= 32; what++) {
            boolean none = what < 0 || what == 9 || what == 18 || what == 19 || what > 29;
            due("what " + what + " is there", x.count(what) != NONE, !none);
        }
        due("kind 0", x.count(10), 0);
        due("kind 7", x.count(17), 2);
        due("family 0", x.count(20), 1);
        due("family 9", x.count(29), 2);
        due("what MIN", x.count(MIN), NONE);
        due("what MAX", x.count(MAX), NONE);
        ToyHouse y = house(1, 0, 1);
        due("the last kind", y.count(10), 0);
        due("no such kind", y.count(11), NONE);
        due("the last family", y.count(20), 0);
        due("no such family", y.count(21), NONE);
    }

    static void p41most() {
        of("Promise 41", "0 NOW, 1 KINDS, 2 TOYS, 3 FAMILIES, 4 CLAUSES, 5 bytes of the tape, 6 RECALLS, 7 GIFTS, 8 acts of LENT, BACK, LOST");
        ToyHouse x = house(8, 16, 10);
        for (int i = 0; i < 20; i++) {
            x.gift(0, 2, 699);
            x.recall(5, 0, 0);
        }
        rules(x, "a(1=1);".repeat(15) + "a(1=1)");
        x.now(699);
        lendAndBack(x, 0, 0);
        x.lend(1, 0);
        x.lost(1);
        x.lend(2, 0);
        x.cull(3);
        taped(x, 220);
        int[] most = {699, 8, 16, 10, 16, 220, 10, 20, 5};
        for (int what = 0; what < most.length; what++) {
            due("what " + what, x.count(what), most[what]);
        }
    }
}
