/** Texts of rules: what is a fault and where, and how what is right is reckoned. */
public final class RulesTest {
    private static final Dues DUES = new Dues("RulesTest");

    public static void main(String[] args) {
        faultsOfSigns();
        faultsOfEnd();
        faultsOfNumbers();
        faultsOfClauses();
        faultsOfOpen();
        firstFaultCounts();
        arithmetic();
        conditions();
        refusals();
        bounds();
        lettersWhenLent();
        lettersWhenBack();
        lettersWhenLost();
        lettersOfTurn();
        DUES.end();
    }

    private static void fault(String text, int want) {
        ToyHouse house = new ToyHouse();
        Dues.rules(house, "o(1=1);o(1=1)");
        DUES.due("rules " + text, Dues.rules(house, text), want);
        DUES.due("clauses behind " + text, house.count(4), want < 0 ? 2 : want);
        DUES.due("tape behind " + text, house.count(5), 0);
    }

    private static void faultsOfSigns() {
        fault("b(1=1)", -1000);
        fault("D1(1=1)", -1000);
        fault(";", -1000);
        fault(" a(1=1)", -1000);
        fault("a (1=1)", -1001);
        fault("a(1=1) ", -1006);
        fault("a(1=1);;a(1=1)", -1007);
        fault("d(1=1)", -1001);
        fault("f(1=1)", -1001);
        fault("p(1=1)", -1001);
        fault("n(1=1)", -1001);
        fault("a1(1=1)", -1001);
        fault("w1(1=1)", -1001);
        fault("o1(1=1)", -1001);
        fault("u1(1=1)", -1001);
        fault("d-1(1=1)", -1001);
        fault("d1+(1=1)", -1003);
        fault("d1(1)", -1004);
        fault("d1(1==1)", -1005);
        fault("d1(1=1=1)", -1006);
        fault("d1(1=1&)", -1007);
        fault("d1(1=1&&1=1)", -1007);
        fault("d1(1=1|)", -1007);
        fault("d1(|1=1)", -1003);
        fault("d1(!)", -1004);
        fault("d1(())", -1004);
        fault("d1((1)=1)", -1005);
        fault("d1((1=1)=1)", -1008);
        fault("d1([1=1)", -1005);
        fault("d[]((1=1))", -1002);
        fault("d[1](1=1)a", -1009);
        fault("d1(1=b)", -1005);
        fault("d1(kk=1)", -1004);
        fault("d1(1k=1)", -1004);
        fault("d1(k1=1)", -1004);
        fault("d" + (char) 233 + "(1=1)", -1001);
        fault("d" + (char) 0 + "(1=1)", -1001);
        for (char letter = 'a'; letter <= 'z'; letter++) {
            boolean stands = "kapzwmtnyevhdslqc".indexOf(letter) >= 0;
            fault("a(" + letter + "=0)", stands ? 1 : -1002);
            boolean withValue = "dfpn".indexOf(letter) >= 0;
            boolean without = "awou".indexOf(letter) >= 0;
            fault(letter + "(1=1)", withValue ? -1001 : without ? 1 : -1000);
            fault(letter + "1(1=1)", withValue ? 1 : without ? -1001 : -1000);
        }
    }

    private static void faultsOfEnd() {
        fault("a", -1001);
        fault("d", -1001);
        fault("d1", -1002);
        fault("d1+", -1003);
        fault("d[1", -1003);
        fault("a(", -1002);
        fault("a(!", -1003);
        fault("a(1", -1003);
        fault("a(1=", -1004);
        fault("a(1=1", -1005);
        fault("a(1=1&", -1006);
        fault("a(1=1);", -1007);
    }

    private static void faultsOfNumbers() {
        fault("d12345(1=1)", 1);
        fault("d00001(1=1)", 1);
        fault("d123456(1=1)", -2006);
        fault("d000001(1=1)", -2006);
        fault("a(1=1234567)", -2009);
        fault("a(12345+123456=1)", -2013);
    }

    private static void faultsOfClauses() {
        String sixteen = "o(1=1);".repeat(15) + "o(1=1)";
        fault(sixteen, 16);
        fault(sixteen + ";o(1=1)", -4112);
        fault(sixteen + ";d", -4112);
        fault(sixteen + ";x", -1112);
        fault(sixteen + ";", -1112);
        fault(sixteen + "o", -1111);
    }

    private static void faultsOfOpen() {
        fault("a((((((1=1))))))", 1);
        fault("a(((((((1=1)))))))", -5007);
        fault("a(!!!!!1=1)", 1);
        fault("a(!!!!!!1=1)", -5007);
        fault("a([[[[[1]]]]]=1)", 1);
        fault("a([[[[[[1]]]]]]=1)", -5007);
        fault("d[[[[[[1]]]]]](1=1)", 1);
        fault("d[[[[[[[1]]]]]]](1=1)", -5007);
        fault("d[[[[[[1]]]]]]((((((1=1))))))", 1);
        fault("a(!(!(!1=1)))", 1);
        fault("a(!(!(![1]=1)))", -5007);
        fault("a(!(!(!1=1))&!(!(!1=1))&[[[[[1]]]]]=1)", 1);
        fault("a(!(!(!1=1&!1=1)))", 1);
        fault("a(!1=1&!1=1&!1=1&!1=1&!1=1&!1=1&!1=1)", 1);
        fault("a(!!!!!(1=1))", -5007);
        fault("a(((((([1]=1))))))", -5007);
        fault("a((((((1(", -1008);
        fault("a((((((1!", -1008);
        fault("a((((((1[", -1008);
    }

    private static void firstFaultCounts() {
        fault("a(1=1);b;d1234567(1=1)", -1007);
        fault("d1234567(1=1);b", -2006);
        fault("a(!!!!!![b", -5007);
        fault("a(" + "0+".repeat(97) + "0=0)", 1);
        fault("a(" + "0+".repeat(97) + "0=0 ", -1199);
        fault("a(" + "0+".repeat(98) + "00", -1200);
    }

    // ---- reckoning: by the turn of the one family that waits

    private static int turn(String value) {
        return turnOf("n" + value + "(1=1)");
    }

    private static int turnOf(String text) {
        ToyHouse house = new ToyHouse();
        house.kind(3, 500, 4, 2, 9);
        house.family(7, 5, 2);
        house.waits(0, 0);
        house.now(11);
        DUES.due("rules " + text + " are right", Dues.rules(house, text) > 0, true);
        return house.next(0, 1);
    }

    private static void arithmetic() {
        DUES.due("1+2*3", turn("1+2*3"), 7);
        DUES.due("[1+2]*3", turn("[1+2]*3"), 9);
        DUES.due("10-3-4", turn("10-3-4"), 3);
        DUES.due("10-[3-4]", turn("10-[3-4]"), 11);
        DUES.due("100/7/2", turn("100/7/2"), 7);
        DUES.due("100/7*2", turn("100/7*2"), 28);
        DUES.due("100*7%9", turn("100*7%9"), 7);
        DUES.due("100%7*9", turn("100%7*9"), 18);
        DUES.due("[0-7]/2", turn("[0-7]/2"), -3);
        DUES.due("[0-7]%2", turn("[0-7]%2"), -1);
        DUES.due("7%[0-2]", turn("7%[0-2]"), 1);
        DUES.due("00012", turn("00012"), 12);
        DUES.due("65536*32768", turn("65536*32768"), -100000);
        DUES.due("65536*32768-1", turn("65536*32768-1"), 100000);
        DUES.due("65536*65536", turn("65536*65536"), 0);
        DUES.due("least through -1", turn("65536*32768/[0-1]"), -100000);
        DUES.due("least % -1", turn("5+65536*32768%[0-1]"), 5);
        DUES.due("99999*99999%1000", turn("99999*99999%1000"), (99999 * 99999) % 1000);
    }

    private static void holds(String condition, boolean want) {
        DUES.due(condition, turnOf("n1(" + condition + ")"), want ? 1 : 0);
    }

    private static void conditions() {
        holds("1<2", true);
        holds("2<2", false);
        holds("3<2", false);
        holds("2>1", true);
        holds("2>2", false);
        holds("1=1", true);
        holds("1=2", false);
        holds("!1=2", true);
        holds("!!1=2", false);
        holds("1=1|1=2&1=2", true);
        holds("(1=1|1=2)&1=2", false);
        holds("1=2&1=2|1=1", true);
        holds("1=2&(1=2|1=1)", false);
        holds("!1=2&1=2", false);
        holds("!(1=2&1=2)", true);
        holds("1=1&1=1&1=2", false);
        holds("1=2|1=2|1=1", true);
        holds("65536*32768<0", true);
        DUES.due("the first that holds", turnOf("n1(1=2);n2(1=1);n3(1=1)"), 2);
        DUES.due("none that holds", turnOf("n1(1=2);n2(2<1)"), 0);
    }

    private static void refusals() {
        holds("1/0=0", false);
        holds("1%0=0", false);
        holds("!1/0=0", false);
        holds("!(1/0=0)", false);
        holds("1/0=0|1=1", false);
        holds("1=1|1/0=0", true);
        holds("1=2&1/0=0", false);
        holds("!(1=2&1/0=0)", true);
        holds("(1=1|1/0=0)&1=1", true);
        holds("1=2|1/0=0|1=1", false);
        holds("(1=2&1/0=0)|1=1", true);
        holds("1=1|1/0=0&1/0=0|1/0=0", true);
        holds("1=1&1/0=0|1=1", false);
        DUES.due("E through 0", turn("5+1/0"), 0);
        DUES.due("E % 0", turn("5%0+7"), 0);
        DUES.due("[E] through 0", turn("5+[1/0]"), 0);
        DUES.due("a refused E is the first all the same", turnOf("n1/0(1=1);n7(1=1)"), 0);
        DUES.due("a refused C is passed", turnOf("n1(1/0=1);n7(1=1)"), 7);
        DUES.due("E stands apart from C", turnOf("n1/[k](k=0&!1/[k+1]=0)"), 0);
        DUES.due("d refused", lent("d1/0(1=1)"), 1);
        DUES.due("a refused", whyNot("a(1/0=0)"), 6);
        DUES.due("u refused", whyNot("u(1/0=0)"), 0);
    }

    private static int lent(String text) {
        ToyHouse house = new ToyHouse();
        house.kind(3, 500, 4, 2, 9);
        house.toy(0, 0);
        house.family(7, 5, 2);
        Dues.rules(house, text);
        return house.lend(0, 0);
    }

    private static int whyNot(String text) {
        ToyHouse house = new ToyHouse();
        house.kind(3, 500, 4, 2, 9);
        house.toy(0, 0);
        house.family(7, 5, 2);
        Dues.rules(house, text);
        return house.not(0, 0);
    }

    private static int owedFor(String text) {
        ToyHouse house = new ToyHouse();
        house.kind(3, 500, 4, 2, 9);
        house.pieces(0, 0, 3, 1);
        house.toy(0, 0);
        house.family(7, 5, 2);
        Dues.rules(house, text);
        house.lend(0, 0);
        return Dues.back(house, 0, 1);
    }

    private static int lostFor(String text) {
        ToyHouse house = new ToyHouse();
        house.kind(3, 500, 4, 2, 9);
        house.pieces(0, 0, 3, 1);
        house.toy(0, 0);
        house.family(7, 5, 2);
        Dues.rules(house, text);
        house.lend(0, 0);
        return house.lost(0);
    }

    private static void bounds() {
        DUES.due("d none", lent("o(1=1)"), 21);
        DUES.due("d none holds", lent("d5(1=2)"), 21);
        DUES.due("d0", lent("d0(1=1)"), 1);
        DUES.due("d0-5", lent("d0-5(1=1)"), 1);
        DUES.due("d1", lent("d1(1=1)"), 1);
        DUES.due("d200", lent("d200(1=1)"), 200);
        DUES.due("d201", lent("d201(1=1)"), 200);
        DUES.due("f none", owedFor("d1(1=1)"), 0);
        DUES.due("f0-1", owedFor("f0-1(1=1)"), 0);
        DUES.due("f99999", owedFor("f99999(1=1)"), 99999);
        DUES.due("f99999*2", owedFor("f99999*2(1=1)"), 100000);
        DUES.due("p0-1", owedFor("p0-1(1=1)"), 0);
        DUES.due("p7", owedFor("p7(1=1)"), 14);
        DUES.due("p99999*2", owedFor("p99999*2(1=1)"), 200000);
        DUES.due("p and f", owedFor("p7(1=1);f5(1=1);p9(1=1);f3(1=1)"), 19);
        DUES.due("p99999*2, lost", lostFor("p99999*2(1=1)"), 300000);
        DUES.due("p0-1, lost", lostFor("p0-1(1=1)"), 0);
        DUES.due("no p, lost", lostFor("f5(1=1)"), 0);
        DUES.due("n99999*2", turn("99999*2"), 100000);
        DUES.due("n0-99999*2", turn("0-99999*2"), -100000);
    }

    /** The value of each letter, when toy 1 is asked for by family 1. */
    private static void lettersWhenLent() {
        String letters = "kapzwmtnyevhdslqc";
        int[] want = {1, 3, 500, 4, 10, 1, 1, 1, 7, 5, 2, 1, 380, 15, 0, 2, 2};
        for (int i = 0; i < letters.length(); i++) {
            ToyHouse house = readyToLend();
            Dues.rules(house, "a(" + letters.charAt(i) + "=" + want[i] + ");u(!" + letters.charAt(i) + "=" + want[i] + ")");
            DUES.due("letter " + letters.charAt(i) + " of a and u", house.not(1, 1), 0);
            Dues.rules(house, "d100+" + letters.charAt(i) + "(1=1)");
            DUES.due("letter " + letters.charAt(i) + " of d", house.lend(1, 1), 380 + Math.min(200, 100 + want[i]));
        }
    }

    private static ToyHouse readyToLend() {
        ToyHouse house = new ToyHouse();
        house.kind(0, 1, 0, 0, 1);
        house.kind(3, 500, 4, 2, 90);
        house.pieces(1, 0, 3, 1);
        house.toy(0, 0);
        house.toy(1, 0);
        house.family(0, 0, 0);
        house.family(7, 5, 2);
        house.lend(0, 1);
        house.lend(1, 0);
        house.now(10);
        Dues.back(house, 1, 2);
        house.now(378);
        house.waits(1, 1);
        house.waits(0, 1);
        house.now(380);
        return house;
    }

    /** Wear and pieces as they come back, lent once more, h with it; the family waits again for the kind. */
    private static void lettersWhenBack() {
        String letters = "kapzwmtnyevhdslqc";
        int[] want = {1, 3, 500, 4, 40, 3, 1, 2, 7, 5, 2, 2, 410, 45, 9, 7, 2};
        for (int i = 0; i < letters.length(); i++) {
            char letter = letters.charAt(i);
            ToyHouse house = readyToLend();
            house.lend(1, 1);
            house.now(403);
            house.waits(1, 1);
            house.now(410);
            String right = letter + "=" + want[i];
            Dues.rules(house, "f1000(" + right + ");p10(" + right + ");w(!" + right + ");o(!" + right + ")");
            DUES.due("letter " + letter + " of f p o", Dues.back(house, 1), 1020);
            DUES.due("letter " + letter + " of w", house.toyIs(1, 5), 0);
        }
    }

    /** What is lost is as it was when it was lent, and never late. */
    private static void lettersWhenLost() {
        String letters = "kapzwmtnyevhdslqc";
        int[] want = {1, 3, 500, 4, 10, 1, 1, 2, 7, 5, 2, 2, 410, 45, 0, 7, 2};
        for (int i = 0; i < letters.length(); i++) {
            ToyHouse house = readyToLend();
            house.lend(1, 1);
            house.now(403);
            house.waits(1, 1);
            house.now(410);
            Dues.rules(house, "p10+" + letters.charAt(i) + "(1=1)");
            DUES.due("letter " + letters.charAt(i) + " of p, lost", house.lost(1), 2 * (10 + want[i]));
        }
    }

    private static void lettersOfTurn() {
        String letters = "kapzwmtnyevhdslqc";
        int[] want = {1, 3, 500, 4, 0, 0, 0, 0, 7, 5, 2, 1, 380, 15, 0, 2, 2};
        for (int i = 0; i < letters.length(); i++) {
            ToyHouse house = readyToLend();
            Dues.rules(house, "n1000+" + letters.charAt(i) + "(e=5)");
            DUES.due("letter " + letters.charAt(i) + " of n", house.next(1, 1), 1000 + want[i]);
            DUES.due("who comes next", house.next(1, 0), 1);
        }
    }
}
