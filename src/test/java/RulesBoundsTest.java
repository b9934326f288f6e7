import java.io.IOException;

/** The boundaries that Term 2 names: the text of rules, what its clauses answer, its letters and its faults. */
public final class RulesBoundsTest extends Sentences {
    public static void main(String[] args) throws IOException, ReflectiveOperationException {
        runAll(RulesBoundsTest.class, "Term 2");
    }

    // ---- what a text answers

    /** What rules answers of a text, in a house that has two clauses before. */
    private static int read(String text) {
        ToyHouse x = new ToyHouse();
        rules(x, "o(1=1);o(1=1)");
        int answer = Dues.rules(x, text);
        due("clauses behind " + text, x.count(4), answer < 0 ? 2 : answer);
        return answer;
    }

    private static void reads(String text, int want) {
        due("rules " + text, read(text), want);
    }

    /** One toy of kind 0 with three pieces of sort 0, from age 3 on; one family with a child of 7, need 5, village 2. */
    private static ToyHouse one(String text) {
        ToyHouse x = new ToyHouse();
        x.kind(3, 500, 4, 2, 90);
        x.pieces(0, 0, 3, 1);
        x.toy(0, 0);
        x.family(7, 5, 2);
        rules(x, text);
        return x;
    }

    private static int daysLent(String text) {
        return one(text).lend(0, 0);
    }

    /** What is owed when the toy comes back with one piece of three, on the day on which it was lent. */
    private static int owed(String text) {
        return lendAndBack(one(text), 0, 0, 1);
    }

    private static int whyNot(String text) {
        return one(text).not(0, 0);
    }

    private static int turn(String text) {
        ToyHouse x = one(text);
        x.waits(0, 0);
        return x.next(0, 1);
    }

    private static int mustBeWashed(String text) {
        ToyHouse x = one(text);
        lendAndBack(x, 0, 0, 3);
        return x.toyIs(0, 5);
    }

    private static void holds(String condition, boolean want) {
        due(condition, turn("n1(" + condition + ")"), want ? 1 : 0);
    }

    private static void reckons(String expression, int want) {
        due(expression, turn("n" + expression + "(1=1)"), want);
    }

    // ---- the text and its clauses

    static void textOf200() {
        of("Term 2", "a TEXT of at most 200 bytes");
        String longest = "a(" + "0+".repeat(97) + "0=0)";
        due("bytes of the longest", longest.length(), 200);
        reads(longest, 1);
        ToyHouse x = new ToyHouse();
        Dues.feedBytes(x, Dues.bytesOf(longest + " ".repeat(20)));
        due("201 bytes", x.rules(201), NONE);
        due("200 bytes", x.rules(200), 1);
        x = one("a(1=1)");
        x.waits(0, 0);
        for (int i = 0; i < 5; i++) {
            rules(x, "n0" + "1+".repeat(96) + "1(1=1)");
            due("97 ones in 200 bytes, text " + i, x.next(0, 1), 97);
        }
    }

    static void noBlanks() {
        of("Term 2", "no blanks");
        reads("d5+1(1=1)", 1);
        reads(" d5+1(1=1)", -1000);
        reads("d 5+1(1=1)", -1001);
        reads("d5 +1(1=1)", -1002);
        reads("d5+1 (1=1)", -1004);
        reads("d5+1( 1=1)", -1005);
        reads("d5+1(1=1 )", -1008);
        reads("d5+1(1=1) ", -1009);
        reads("d5+1(1=1)\n", -1009);
    }

    static void noneAtFirst() {
        of("Term 2", "(none at first)");
        ToyHouse x = house();
        x.waits(0, 0);
        due("clauses", x.count(4), 0);
        due("turn", x.next(0, 1), 0);
        due("it may be lent", x.not(0, 0), 0);
        due("days", x.lend(0, 0), 21);
        due("neither fine nor pieces", back(x, 0), 0);
        due("not to be washed", x.toyIs(0, 5), 0);
        rules(x, "d5(1=1);w(1=1);f9(1=1)");
        due("clauses then", x.count(4), 3);
        due("days then", x.lend(1, 0), 5);
        due("a fine then", back(x, 1, 2, 0, 1), 9);
        due("to be washed then", x.toyIs(1, 5), 1);
    }

    static void clauses16() {
        of("Term 2", "CLAUSES (16 at most)");
        String fifteen = "a(1=1);".repeat(14) + "a(1=1)";
        reads(fifteen, 15);
        reads(fifteen + ";d7(1=1)", 16);
        due("the 16th counts", daysLent(fifteen + ";d7(1=1)"), 7);
        due("so does the first", daysLent("d7(1=1);" + fifteen), 7);
        reads(fifteen + ";a(1=1);d7(1=1)", -4000 - 16 * 7);
        reads("a(1=1)", 1);
    }

    static void semicolons() {
        of("Term 2", "with a ; (59) between two");
        reads("a(1=1);a(1=1)", 2);
        reads("a(1=1)" + (char) 58 + "a(1=1)", -1006);
        reads("a(1=1)" + (char) 60 + "a(1=1)", -1006);
        reads("a(1=1)a(1=1)", -1006);
        reads("a(1=1);;a(1=1)", -1007);
        reads(";a(1=1)", -1000);
        reads("a(1=1);", -1007);
    }

    static void lettersOfClauses() {
        of("Term 2", "a letter and, of d f p n, E, then (C)");
        for (char letter = 'a' - 1; letter <= 'z' + 1; letter++) {
            boolean withE = "dfpn".indexOf(letter) >= 0;
            boolean withoutE = "awou".indexOf(letter) >= 0;
            reads(letter + "1(1=1)", withE ? 1 : withoutE ? -1001 : -1000);
            reads(letter + "(1=1)", withoutE ? 1 : withE ? -1001 : -1000);
        }
        reads("D1(1=1)", -1000);
        reads("a", -1001);
        reads("d1", -1002);
    }

    static void daysOfLending() {
        of("Term 2", "for how many DAYS it is lent (1 to 200; 21 if none)");
        due("d0", daysLent("d0(1=1)"), 1);
        due("d1", daysLent("d1(1=1)"), 1);
        due("d2", daysLent("d2(1=1)"), 2);
        due("d199", daysLent("d199(1=1)"), 199);
        due("d200", daysLent("d200(1=1)"), 200);
        due("d201", daysLent("d201(1=1)"), 200);
        due("d0-1", daysLent("d0-1(1=1)"), 1);
        due("none", daysLent("f5(1=1)"), 21);
        due("none that holds", daysLent("d5(1=2)"), 21);
    }

    static void fines() {
        of("Term 2", "the FINE when it comes back (0 to 100000)");
        due("f0-1", owed("f0-1(1=1)"), 0);
        due("f0", owed("f0(1=1)"), 0);
        due("f1", owed("f1(1=1)"), 1);
        due("f99999", owed("f99999(1=1)"), 99999);
        due("f99999+1", owed("f99999+1(1=1)"), 100000);
        due("f99999+2", owed("f99999+2(1=1)"), 100000);
    }

    static void pricesOfPieces() {
        of("Term 2", "the PRICE of one PIECE that is paid for (0 to 100000)");
        due("p0-1", owed("p0-1(1=1)"), 0);
        due("p0", owed("p0(1=1)"), 0);
        due("p1", owed("p1(1=1)"), 2);
        due("p99999", owed("p99999(1=1)"), 199998);
        due("p99999+1", owed("p99999+1(1=1)"), 200000);
        due("p99999+2", owed("p99999+2(1=1)"), 200000);
        due("p99999+1, lost", lost("p99999+1(1=1)"), 300000);
        due("p99999+2, lost", lost("p99999+2(1=1)"), 300000);
        due("p0-1, lost", lost("p0-1(1=1)"), 0);
    }

    private static int lost(String text) {
        ToyHouse x = one(text);
        x.lend(0, 0);
        return x.lost(0);
    }

    static void turns() {
        of("Term 2", "the TURN of who waits (-100000 to 100000)");
        reckons("99999", 99999);
        reckons("99999+1", 100000);
        reckons("99999+2", 100000);
        reckons("0-99999", -99999);
        reckons("0-99999-1", -100000);
        reckons("0-99999-2", -100000);
    }

    static void firstThatHolds() {
        of("Term 2", "of the first such CLAUSE whose C holds (none: 0, of d 21)");
        due("d, the first", daysLent("d5(1=1);d6(1=1)"), 5);
        due("d, the second", daysLent("d5(1=2);d6(1=1)"), 6);
        due("d, none", daysLent("d5(1=2);d6(1=2)"), 21);
        due("f, the first", owed("f5(1=1);f6(1=1)"), 5);
        due("f, the second", owed("f5(1=2);f6(1=1)"), 6);
        due("f, none", owed("f5(1=2);f6(1=2)"), 0);
        due("p, the first", owed("p5(1=1);p6(1=1)"), 10);
        due("p, the second", owed("p5(1=2);p6(1=1)"), 12);
        due("p, none", owed("p5(1=2);p6(1=2)"), 0);
        due("p of a lost one, the second", lost("p5(1=2);p6(1=1)"), 18);
        due("p of a lost one, none", lost("p5(1=2);p6(1=2)"), 0);
        due("p of a lost one, none there", lost("f5(1=1)"), 0);
        due("n, the first", turn("n5(1=1);n6(1=1)"), 5);
        due("n, the second", turn("n5(1=2);n6(1=1)"), 6);
        due("n, none", turn("n5(1=2);n6(1=2)"), 0);
        due("others do not count", daysLent("f5(1=1);n6(1=1);p7(1=1);d8(1=1)"), 8);
    }

    static void allOfA() {
        of("Term 2", "it may be lent only if all of these hold");
        due("none", whyNot("o(1=1)"), 0);
        due("one that holds", whyNot("a(1=1)"), 0);
        due("one that does not", whyNot("a(1=2)"), 6);
        due("all of three", whyNot("a(1=1);a(2=2);a(3=3)"), 0);
        due("not the first", whyNot("a(1=2);a(2=2);a(3=3)"), 6);
        due("not the last", whyNot("a(1=1);a(2=2);a(3=4)"), 6);
    }

    static void oneOfW() {
        of("Term 2", "it must be WASHED when it comes back, if one holds");
        due("none", mustBeWashed("o(1=1)"), 0);
        due("one that holds", mustBeWashed("w(1=1)"), 1);
        due("one that does not", mustBeWashed("w(1=2)"), 0);
        due("the last of two", mustBeWashed("w(1=2);w(1=1)"), 1);
        due("the first of two", mustBeWashed("w(1=1);w(1=2)"), 1);
        due("none of two", mustBeWashed("w(1=2);w(2=1)"), 0);
    }

    static void oneOfO() {
        of("Term 2", "a FINE is FORGIVEN, if one holds");
        due("none", owed("f9(1=1)"), 9);
        due("one that holds", owed("f9(1=1);o(1=1)"), 0);
        due("one that does not", owed("f9(1=1);o(1=2)"), 9);
        due("the last of two", owed("f9(1=1);o(1=2);o(1=1)"), 0);
        due("the first of two", owed("f9(1=1);o(1=1);o(1=2)"), 0);
        due("none of two", owed("f9(1=1);o(1=2);o(2=1)"), 9);
        due("not the pieces", owed("f9(1=1);p1(1=1);o(1=1)"), 2);
    }

    static void oneOfU() {
        of("Term 2", "it may not be lent as it is, if one holds");
        due("none", whyNot("o(1=1)"), 0);
        due("one that holds", whyNot("u(1=1)"), 7);
        due("one that does not", whyNot("u(1=2)"), 0);
        due("the last of two", whyNot("u(1=2);u(1=1)"), 7);
        due("the first of two", whyNot("u(1=1);u(1=2)"), 7);
        due("none of two", whyNot("u(1=2);u(2=1)"), 0);
    }

    // ---- conditions and expressions

    static void parts() {
        of("Term 2", "PARTS with a | between two, one of which must hold");
        holds("1=1", true);
        holds("1=2", false);
        holds("1=1|1=2", true);
        holds("1=2|1=1", true);
        holds("1=2|1=2|1=1", true);
        holds("1=2|1=2|1=2", false);
        reads("a(|1=1)", -1002);
        reads("a(1=1|)", -1006);
        reads("a(1=1||1=1)", -1006);
    }

    static void pieces() {
        of("Term 2", "PIECES with an & between two, all of which must");
        holds("1=1&1=1", true);
        holds("1=1&1=2", false);
        holds("1=2&1=1", false);
        holds("1=1&1=1&1=1", true);
        holds("1=1&1=1&1=2", false);
        holds("1=1|1=2&1=2", true);
        holds("(1=1|1=2)&1=2", false);
        holds("1=2&1=2|1=1", true);
        reads("a(&1=1)", -1002);
        reads("a(1=1&)", -1006);
        reads("a(1=1&&1=1)", -1006);
    }

    static void onePiece() {
        of("Term 2", "a PIECE: !PIECE, (C), or E, one of < > =, and E");
        holds("4<5", true);
        holds("5<5", false);
        holds("6<5", false);
        holds("4>5", false);
        holds("5>5", false);
        holds("6>5", true);
        holds("4=5", false);
        holds("5=5", true);
        holds("6=5", false);
        holds("!5=5", false);
        holds("!!5=5", true);
        holds("(5=5)", true);
        holds("!(5=5)", false);
        reads("a()", -1002);
        reads("a(5)", -1003);
        reads("a(5=)", -1004);
        reads("a(=5)", -1002);
        reads("a(5==5)", -1004);
        reads("a(5=5=5)", -1005);
        reads("a(!)", -1003);
        reads("a(5!=5)", -1003);
    }

    static void terms() {
        of("Term 2", "TERMS with + or - between two");
        reckons("7", 7);
        reckons("7+2", 9);
        reckons("7-2", 5);
        reckons("7-2-1", 4);
        reckons("7-2+1", 6);
        reckons("1+2*3", 7);
        reads("d+1(1=1)", -1001);
        reads("d-1(1=1)", -1001);
        reads("d1+(1=1)", -1003);
        reads("d1+-1(1=1)", -1003);
    }

    static void factors() {
        of("Term 2", "FACTORS with one of * / % between two; from the left on");
        reckons("7*2", 14);
        reckons("7/2", 3);
        reckons("7%2", 1);
        reckons("100/7/2", 7);
        reckons("100/7*2", 28);
        reckons("100*7%9", 7);
        reckons("100%7*9", 18);
        reckons("[0-7]/2", -3);
        reckons("[0-7]%2", -1);
        reads("d*1(1=1)", -1001);
        reads("d1*(1=1)", -1003);
        reads("d1**1(1=1)", -1003);
    }

    static void numbersAndLetters() {
        of("Term 2", "a FACTOR: [E], a number of one to five digits, or a letter");
        reckons("[[5]]", 5);
        reckons("0", 0);
        reckons("9", 9);
        reckons("00000", 0);
        reckons("00019", 19);
        reckons("99999", 99999);
        reckons("a", 3);
        reads("d[](1=1)", -1002);
        reads("d[5(1=1)", -1003);
        reads("d5](1=1)", -1002);
        reads("d100000(1=1)", -2006);
        reads("d000000(1=1)", -2006);
        reads("daa(1=1)", -1002);
        reads("d5a(1=1)", -1002);
        reads("da5(1=1)", -1002);
        for (char letter = 'a' - 1; letter <= 'z' + 1; letter++) {
            reads("a(" + letter + "=0)", "kapzwmtnyevhdslqc".indexOf(letter) >= 0 ? 1 : -1002);
        }
        reads("a(K=0)", -1002);
        reads("a(" + (char) 47 + "=0)", -1002);
        reads("a(" + (char) 0 + "=0)", -1002);
        reads("a(" + (char) 255 + "=0)", -1002);
    }

    // ---- letters at their ends

    private static void lent(String letter, ToyHouse x, int t, int f, int want) {
        rules(x, "d100+" + letter + "(1=1)");
        due("letter " + letter, x.lend(t, f) - x.count(0) - 100, want);
    }

    static void letterK() {
        of("Term 2", "k the KIND");
        ToyHouse x = house(8, 1, 1);
        x.toy(7, 0);
        lent("k", x, 0, 0, 0);
        lent("k", x, 1, 0, 7);
    }

    static void letterA() {
        of("Term 2", "a its AGE");
        due("0", turnOfKind(0, 9, 9, "na(1=1)"), 0);
        due("15", turnOfKind(15, 9, 9, "na(1=1)"), 15);
    }

    static void letterP() {
        of("Term 2", "p its PRICE");
        due("1", turnOfKind(9, 1, 9, "np(1=1)"), 1);
        due("20000", turnOfKind(9, 20000, 9, "np(1=1)"), 20000);
    }

    static void letterZ() {
        of("Term 2", "z its NOISE");
        due("0", turnOfKind(9, 9, 0, "nz(1=1)"), 0);
        due("9", turnOfKind(8, 8, 9, "nz(1=1)"), 9);
    }

    private static int turnOfKind(int age, int price, int noise, String text) {
        ToyHouse x = new ToyHouse();
        x.kind(age, price, noise, 0, 1);
        x.family(0, 0, 0);
        x.waits(0, 0);
        rules(x, text);
        return x.next(0, 1);
    }

    static void lettersOfFamilies() {
        of("Term 2", "y the age of the youngest child, e NEED, v the VILLAGE");
        ToyHouse x = house(1, 2, 0);
        x.family(15, 9, 4);
        x.family(0, 0, 0);
        rules(x, "d1+y+e*10+v(1=1)");
        due("at their most", x.lend(0, 0), 1 + 15 + 90 + 4);
        due("at their least", x.lend(1, 1), 1);
    }

    static void letterW() {
        of("Term 2", "w its WEAR");
        ToyHouse x = house(1, 1, 1);
        lent("w", x, 0, 0, 0);
        back(x, 0);
        lent("w", x, 0, 0, 1);
        x.now(99);
        back(x, 0);
        due("worn", x.lend(0, 0), NONE);
        x = house(1, 1, 1);
        rules(x, "fw(1=1)");
        x.lend(0, 0);
        x.now(699);
        due("letter w at its most", back(x, 0), 699);
    }

    static void letterM() {
        of("Term 2", "m how many PIECES lack together");
        ToyHouse x = house(1, 0, 1);
        for (int sort = 0; sort <= 5; sort++) {
            x.pieces(0, sort, 6, 1);
        }
        x.toy(0, 0);
        lent("m", x, 0, 0, 0);
        back(x, 0, 6, 6, 6, 6, 6, 5);
        lent("m", x, 0, 0, 1);
        back(x, 0);
        lent("m", x, 0, 0, 36);
    }

    static void letterT() {
        of("Term 2", "t the TOY's number");
        ToyHouse x = house(1, 16, 1);
        lent("t", x, 0, 0, 0);
        lent("t", x, 15, 0, 15);
    }

    static void letterN() {
        of("Term 2", "n how often it was LENT");
        ToyHouse x = house(1, 1, 1);
        lent("n", x, 0, 0, 0);
        back(x, 0);
        lent("n", x, 0, 0, 1);
        rules(x, "fn(1=1)");
        due("letter n when it comes back", back(x, 0), 2);
        lent("n", x, 0, 0, 2);
    }

    static void letterH() {
        of("Term 2", "h how many TOYS that FAMILY has");
        ToyHouse x = house(1, 16, 2);
        for (int t = 0; t <= 14; t++) {
            if (t < 2) {
                lent("h", x, t, 0, t);
            } else {
                x.lend(t, 0);
            }
        }
        lent("h", x, 15, 0, 15);
        x.lost(15);
        rules(x, "fh(1=1)");
        due("letter h when it comes back", back(x, 14), 15);
        due("letter h when the next comes back", back(x, 13), 14);
        lent("h", x, 14, 1, 0);
    }

    static void letterD() {
        of("Term 2", "d NOW");
        due("on day 0", turnOn(0, "nd(1=1)"), 0);
        due("on day 364", turnOn(364, "nd(1=1)"), 364);
        due("on day 365", turnOn(365, "nd(1=1)"), 365);
        due("on day 699", turnOn(699, "nd(1=1)"), 699);
    }

    static void letterS() {
        of("Term 2", "s NOW modulo 365");
        due("on day 0", turnOn(0, "ns(1=1)"), 0);
        due("on day 364", turnOn(364, "ns(1=1)"), 364);
        due("on day 365", turnOn(365, "ns(1=1)"), 0);
        due("on day 366", turnOn(366, "ns(1=1)"), 1);
        due("on day 699", turnOn(699, "ns(1=1)"), 334);
    }

    private static int turnOn(int day, String text) {
        ToyHouse x = one(text);
        x.now(day);
        x.waits(0, 0);
        return x.next(0, 1);
    }

    static void letterL() {
        of("Term 2", "l how many DAYS late it is (0: not)");
        due("on the day on which it was lent", fineOn(0), 100);
        due("the day before", fineOn(4), 100);
        due("on the day", fineOn(5), 100);
        due("the day behind", fineOn(6), 101);
        due("on the last day", fineOn(699), 794);
    }

    private static int fineOn(int day) {
        ToyHouse x = one("d5(1=1);f100+l(1=1)");
        x.lend(0, 0);
        x.now(day);
        return back(x, 0, 3);
    }

    static void letterQ() {
        of("Term 2", "q for how many DAYS one waits");
        ToyHouse x = one("nq(1=1)");
        x.now(5);
        x.waits(0, 0);
        due("on the day", x.next(0, 1), 0);
        x.now(6);
        due("the day behind", x.next(0, 1), 1);
        x.now(699);
        due("on the last day", x.next(0, 1), 694);
        x.leaves(0, 0);
        x.waits(0, 0);
        due("waits anew", x.next(0, 1), 0);
    }

    static void letterC() {
        of("Term 2", "c how many wait for that KIND");
        ToyHouse x = house(2, 2, 10);
        lent("c", x, 0, 0, 0);
        for (int f = 0; f < 10; f++) {
            x.waits(f, 0);
        }
        x.waits(0, 1);
        rules(x, "nc(1=1)");
        due("all wait", x.next(0, 1), 10);
        due("one waits for the other kind", x.next(1, 1), 1);
        lent("c", x, 1, 0, 10);
        rules(x, "fc(1=1)");
        due("one waits no more", back(x, 1), 9);
    }

    static void notComingBack() {
        of("Term 2", "not coming back: l 0");
        ToyHouse x = one("d5+l(1=1);a(l=0);u(l>0)");
        due("lent", x.lend(0, 0), 5);
        x.now(9);
        rules(x, "f1+l(1=1);p10+l(1=1)");
        due("coming back late, a piece lacking", back(x, 0, 2), 1 + 4 + 10 + 4);
        rules(x, "d5+l(1=1);a(l=0);u(l>0)");
        due("it was late", x.not(0, 0), 0);
        due("lent again", x.lend(0, 0), 14);
    }

    static void notWaiting() {
        of("Term 2", "not waiting: q 0");
        ToyHouse x = house(2, 2, 2);
        x.waits(0, 0);
        x.waits(1, 1);
        x.now(4);
        lent("q", x, 0, 0, 4);
        lent("q", x, 1, 1, 0);
        rules(x, "fq(1=1)");
        x.now(5);
        due("waits no more", back(x, 0), 0);
        lent("q", x, 0, 0, 0);
    }

    static void lettersOfTurn() {
        of("Term 2", "in n: t w m n l 0");
        ToyHouse x = house(1, 0, 1);
        x.pieces(0, 0, 3, 1);
        x.toy(0, 0);
        x.toy(0, 0);
        x.lend(1, 0);
        x.now(30);
        rules(x, "fl(1=1)");
        due("it is late", back(x, 1, 1), 9);
        x.waits(0, 0);
        for (char letter : "twmnl".toCharArray()) {
            rules(x, "n7+" + letter + "(" + letter + "=0);n1(1=1)");
            due("letter " + letter + " in n", x.next(0, 1), 7);
        }
        rules(x, "a(t=1&w=30&m=2&n=1)");
        due("not 0 when it is lent", x.not(1, 0), 0);
    }

    static void lettersOfLost() {
        of("Term 2", "LOST: l 0");
        due("lost in time", lostOn(5), 30);
        due("lost late", lostOn(9), 30);
        ToyHouse x = one("d5(1=1);p10+l(1=1)");
        x.lend(0, 0);
        x.now(9);
        due("come back late", back(x, 0), 3 * 14);
        x = house(1, 0, 1);
        x.pieces(0, 0, 3, 1);
        x.toy(0, 0);
        x.toy(0, 0);
        rules(x, "d5(1=1);p10+l(1=1)");
        x.lend(0, 0);
        x.lend(1, 0);
        x.now(9);
        due("one that comes back late", back(x, 0), 3 * 14);
        due("one that is lost then", x.lost(1), 30);
    }

    private static int lostOn(int day) {
        ToyHouse x = one("d5(1=1);p10+l(1=1)");
        x.lend(0, 0);
        x.now(day);
        return x.lost(0);
    }

    // ---- reckoning at its ends

    static void bits32() {
        of("Term 2", "All is reckoned with 32 bits, as the machine does");
        String most = "[65536*32767+65535]";
        String least = "[65536*32768]";
        holds(most + ">0", true);
        holds(most + "+1=" + least, true);
        holds(most + "+1<0", true);
        holds(least + "<0", true);
        holds(least + "-1=" + most, true);
        holds(least + "-1>0", true);
        holds("0-" + least + "=" + least, true);
        holds(most + "*2=0-2", true);
        holds("65536*65535>0", false);
        holds("65536*65536=0", true);
        holds(least + "/[0-1]=" + least, true);
        holds(least + "%[0-1]=0", true);
        holds(most + "/[0-1]=" + least + "+1", true);
    }

    static void dividedByZero() {
        of("Term 2", "what is divided by 0 is REFUSED: then a C does not hold, an E is 0");
        holds("1/1=1", true);
        holds("1/0=0", false);
        holds("!1/0=0", false);
        holds("1%1=0", true);
        holds("1%0=0", false);
        holds("!1%0=1", false);
        holds("!(1/0=0)", false);
        holds("1/0=0|1=1", false);
        holds("(1/0=0)|1=1", false);
        holds("0/1=0", true);
        reckons("7+1/1", 8);
        reckons("7+1/0", 0);
        reckons("7+1%0", 0);
        reckons("7+[1/[1-1]]", 0);
        due("d", daysLent("d7+1/0(1=1)"), 1);
        due("d, and another", daysLent("d7+1/0(1=1);d9(1=1)"), 1);
        due("d, of a C", daysLent("d7(1/0=0);d9(1=1)"), 9);
        due("f", owed("f7+1/0(1=1)"), 0);
        due("p", owed("p7+1/0(1=1)"), 0);
        due("n", turn("n7+1/0(1=1)"), 0);
        due("a", whyNot("a(1/0=0)"), 6);
        due("u", whyNot("u(1/0=0)"), 0);
        due("w", mustBeWashed("w(1/0=0)"), 0);
        due("o", owed("f9(1=1);o(1/0=0)"), 9);
        ToyHouse x = one("n1(1+1/0=1);n7(1+[1+[1+[1+[1+1]]]]=6)");
        x.waits(0, 0);
        for (int i = 0; i < 200; i++) {
            due("refused again and again", x.next(0, 1), 7);
        }
    }

    static void asMuchAsMatters() {
        of("Term 2", "Of a C as much is asked, from the left, as matters.");
        holds("1=1|1/0=0", true);
        holds("1=2|1/0=0", false);
        holds("1/0=0|1=1", false);
        holds("!(1=2&1/0=0)", true);
        holds("!(1=1&1/0=0)", false);
        holds("!(1/0=0&1=2)", false);
        holds("(1=1|1/0=0)&1=1", true);
        holds("(1=2&1/0=0)|1=1", true);
        holds("1=1|1/0=0&1/0=0|1/0=0", true);
        holds("1=2|1=1|1/0=0", true);
        holds("!(1=1&1=2&1/0=0)", true);
        holds("!(1=1|1/0=0)|1=1", true);
    }

    static void boundsOfE() {
        of("Term 2", "(An E below or above its bounds is the bound.)");
        String most = "65536*32767+65535";
        String least = "65536*32768";
        due("d, the most", daysLent("d" + most + "(1=1)"), 200);
        due("d, the least", daysLent("d" + least + "(1=1)"), 1);
        due("f, the most", owed("f" + most + "(1=1)"), 100000);
        due("f, the least", owed("f" + least + "(1=1)"), 0);
        due("p, the most", owed("p" + most + "(1=1)"), 200000);
        due("p, the least", owed("p" + least + "(1=1)"), 0);
        due("n, the most", turn("n" + most + "(1=1)"), 100000);
        due("n, the least", turn("n" + least + "(1=1)"), -100000);
        holds(most + ">99999+99999", true);
        due("two turns at the bound are like ones", nextOf("n99999+e(1=1)"), 0);
        due("two turns below the bound are not", nextOf("n99990+e(1=1)"), 1);
    }

    private static int nextOf(String text) {
        ToyHouse x = house(1, 0, 0);
        x.family(0, 1, 0);
        x.family(0, 9, 0);
        x.waits(0, 0);
        x.waits(1, 0);
        rules(x, text);
        return x.next(0, 0);
    }

    // ---- faults

    static void firstFault() {
        of("Term 2", "FAULTS, the first from the left");
        reads("b(1=1);d123456(1=1)", -1000);
        reads("d123456(1=1);b(1=1)", -2006);
        reads("a(!!!!!!123456=1);b", -5007);
        reads("a(123456=!!!!!!1)", -2007);
        reads("a(1=1);".repeat(16) + "b", -1112);
        reads("a(1=1);".repeat(15) + "a(1=);a(1=1)", -1109);
        reads("a(1=1);".repeat(16) + "a(123456", -4112);
    }

    static void whatCannotStand() {
        of("Term 2", "1 what can't stand there (the end, too)");
        String right = "d[k+1]*2(!(1=1|2<3)&4>5)";
        reads(right, 1);
        for (int end = 1; end < right.length(); end++) {
            reads(right.substring(0, end), -1000 - end);
        }
        for (int place = 0; place <= right.length(); place++) {
            reads(right.substring(0, place) + "?" + right.substring(place), -1000 - place);
        }
        String full = "a(" + "0+".repeat(97) + "0=";
        reads(full + "00", -1200);
        reads(full + "0 ", -1199);
        reads(full + "0)", 1);
    }

    static void sixthDigit() {
        of("Term 2", "2 a sixth digit, at it");
        reads("d12345(1=1)", 1);
        reads("d123456(1=1)", -2006);
        reads("d1234567(1=1)", -2006);
        reads("d000000(1=1)", -2006);
        reads("a(1=99999)", 1);
        reads("a(1=999999)", -2009);
        reads("a(12345+12345=1)", 1);
        reads("a(12345+123456=1)", -2013);
        reads("d12345", -1006);
        reads("d123456", -2006);
    }

    static void seventeenthClause() {
        of("Term 2", "4 a 17th CLAUSE, at its letter (if that can stand there)");
        String sixteen = "a(1=1);".repeat(15) + "a(1=1)";
        reads(sixteen, 16);
        for (char letter : "dfpnawou".toCharArray()) {
            reads(sixteen + ";" + letter, -4112);
        }
        reads(sixteen + ";a(1=1)", -4112);
        reads(sixteen + ";b(1=1)", -1112);
        reads(sixteen + ";(1=1)", -1112);
        reads(sixteen + ";", -1112);
        reads(sixteen + "a(1=1)", -1111);
    }

    static void seventhOpen() {
        of("Term 2", "5 a seventh of ( [ ! that are open in one another, at it");
        reads("a((((((1=1))))))", 1);
        reads("a(((((((1=1)))))))", -5007);
        reads("a(!!!!!1=1)", 1);
        reads("a(!!!!!!1=1)", -5007);
        reads("a([[[[[1]]]]]=1)", 1);
        reads("a([[[[[[1]]]]]]=1)", -5007);
        reads("a(1=[[[[[1]]]]])", 1);
        reads("a(1=[[[[[[1]]]]]])", -5009);
        reads("a(!(!([1]=1)))", 1);
        reads("a(!(!(![1]=1)))", -5007);
        reads("a(!!!!!(1=1))", -5007);
        reads("a((((((!1=1))))))", -5007);
        reads("a(((((([1]=1))))))", -5007);
        reads("a((1=1)&(1=1)&(1=1)&(1=1)&(1=1)&(1=1)&(1=1))", 1);
        reads("a([1]+[1]+[1]+[1]+[1]+[1]+[1]=7)", 1);
        reads("a((((((1(", -1008);
        reads("a((((((1!", -1008);
        reads("a((((((1[", -1008);
        reads("a((((((", -1007);
    }

    static void bracketOfClause() {
        of("Term 2", "the ( of the CLAUSE counts");
        reads("w((((((1=1))))))", 1);
        reads("w(((((((1=1)))))))", -5007);
        reads("d1((((((1=1))))))", 1);
        reads("d1(((((((1=1)))))))", -5008);
        reads("a(1=1);a((((((1=1))))))", 2);
        reads("a(1=1);a(((((((1=1)))))))", -5014);
    }

    static void openTillItsPieceEnds() {
        of("Term 2", "a ! is open till its PIECE ends");
        reads("a(!1=1&!1=1&!1=1&!1=1&!1=1&!1=1&!1=1)", 1);
        reads("a(!1=1|!1=1|!1=1|!1=1|!1=1|!1=1|!1=1)", 1);
        reads("a(!!!!!1=1&!!!!!1=1)", 1);
        reads("a(!!!!!1=1&!!!!!!1=1)", -5016);
        reads("a(!!!!1=[1])", 1);
        reads("a(!!!!!1=[1])", -5009);
        reads("a(!(!(!1=1)))", 1);
        reads("a(!(!(!!1=1)))", -5007);
        reads("a(!(!(!1=1&!1=1)))", 1);
        reads("a(!(1=1)&[[[[[1]]]]]=1)", 1);
    }

    static void eOfClause() {
        of("Term 2", "the E of a CLAUSE stands ahead of it");
        reads("d[[[[[[1]]]]]](1=1)", 1);
        reads("d[[[[[[[1]]]]]]](1=1)", -5007);
        reads("d[[[[[[1]]]]]]((((((1=1))))))", 1);
        reads("n[[[[[[1]]]]]]+[[[[[[1]]]]]](1=1)", 1);
        reads("n[[[[[[1]]]]]]+[[[[[[[1(1=1)", -5021);
        reckons("[[[[[[5]]]]]]", 5);
    }
}
