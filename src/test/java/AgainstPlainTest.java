import java.util.Random;

/** Long runs of calls by fixed seeds, each answer compared with that of PlainHouse. */
public final class AgainstPlainTest {
    private static final String LETTERS = "kapzwmtnyevhdslqc";

    private final Random random;
    private final ToyHouse house = new ToyHouse();
    private final PlainHouse plain = new PlainHouse();
    private final Dues dues;
    private final int seed;
    private final int size;
    private final boolean calm;
    private int call;

    private AgainstPlainTest(int seed, Dues dues) {
        this.seed = seed;
        this.random = new Random(seed);
        this.dues = dues;
        this.size = seed % 4;
        this.calm = seed % 3 == 0;
    }

    public static void main(String[] args) {
        int from = args.length > 0 ? Integer.parseInt(args[0]) : 1;
        int to = args.length > 1 ? Integer.parseInt(args[1]) : 1500;
        Dues dues = new Dues("AgainstPlainTest");
        for (int seed = from; seed <= to && dues.allRight(); seed++) {
            new AgainstPlainTest(seed, dues).run();
        }
        dues.end();
    }

    private void run() {
        build();
        while (call < 480 && dues.allRight()) {
            act();
            ask();
            ask();
            if (random.nextInt(4) == 0) {
                askDear();
            }
        }
    }

    private void due(String what, int got, int want) {
        call++;
        dues.due("seed " + seed + " call " + call + " " + what, got, want);
    }

    private void due(String what, boolean got, int want) {
        due(what, got ? 1 : 0, want);
    }

    // ---- arguments: mostly right, now and then not

    private int upTo(int low, int high) {
        return (int) (low + (long) (random.nextDouble() * ((long) high - low + 1)));
    }

    private int near(int low, int high) {
        int die = random.nextInt(60);
        if (die == 0) {
            return low - 1;
        }
        if (die == 1) {
            return high + 1;
        }
        if (die == 2) {
            return new int[] {Integer.MIN_VALUE, Integer.MAX_VALUE, -1, 0, 1 << 30, -2, 1 << 29}[random.nextInt(7)];
        }
        return die == 3 ? low : die == 4 ? high : upTo(low, Math.max(low, high));
    }

    private int anyToy() {
        return near(0, plain.toys.size() - 1);
    }

    private int anyFamily() {
        return near(0, plain.families.size() - 1);
    }

    private int anyKind() {
        return near(0, plain.kinds.size() - 1);
    }

    // ---- acts

    private void build() {
        int[] kindsOf = {2, 4, 8, 3};
        int[] toysOf = {4, 9, 16, 12};
        int[] familiesOf = {3, 6, 10, 10};
        int many = upTo(1, kindsOf[size]);
        for (int i = 0; i < 20 && plain.kinds.size() < many; i++) {
            kind();
        }
        for (int k = 0; k < plain.kinds.size(); k++) {
            for (int p = 0; p < 6; p++) {
                if (random.nextInt(3) > 0) {
                    pieces(k, p);
                }
            }
        }
        for (int i = 0; i < 20 && plain.families.size() < familiesOf[size]; i++) {
            family();
        }
        for (int i = 0; i < 30 && plain.toys.size() < toysOf[size]; i++) {
            toy();
        }
        rules();
    }

    private void kind() {
        int age = near(0, 15);
        int price = random.nextInt(3) == 0 ? near(1, 20000) : 100 * upTo(1, 5);
        int noise = near(0, 9);
        int maker = random.nextBoolean() ? near(0, 5) : upTo(0, 1);
        int bears = random.nextBoolean() ? near(1, 1000) : near(1, 40);
        due("kind", house.kind(age, price, noise, maker, bears), plain.kind(age, price, noise, maker, bears));
    }

    private void pieces(int k, int p) {
        int many = near(0, size == 0 ? 6 : 2);
        int weight = random.nextBoolean() ? near(1, 400) : near(1, 6);
        due("pieces", house.pieces(k, p, many, weight), plain.pieces(k, p, many, weight));
    }

    private void toy() {
        int k = anyKind();
        int batch = random.nextBoolean() ? near(0, 99) : upTo(0, 5);
        due("toy", house.toy(k, batch), plain.toy(k, batch));
    }

    private void family() {
        int youngest = near(0, 15);
        int need = near(0, 9);
        int village = random.nextBoolean() ? near(0, 4) : upTo(0, 1);
        due("family", house.family(youngest, need, village), plain.family(youngest, need, village));
    }

    private void feed(byte[] bytes) {
        for (int start = 0; start < bytes.length; start += 20) {
            int[] v = Dues.fiveInts(bytes, start);
            due("feed", house.feed(v[0], v[1], v[2], v[3], v[4]), plain.feed(v));
        }
    }

    private void rules() {
        String text = text();
        feed(Dues.bytesOf(text));
        int n = random.nextInt(15) == 0 ? near(1, 200) : text.length();
        due("rules " + text, house.rules(n), plain.rules(n));
    }

    private void back(int t) {
        byte[] told = new byte[6];
        for (int p = 0; p < 6 && !plain.noToy(t); p++) {
            int has = plain.toys.get(t).has[p];
            told[p] = (byte) (random.nextInt(6) == 0 ? upTo(0, has) : has);
            told[p] += (byte) (random.nextInt(120) == 0 ? 1 : random.nextInt(120) == 0 ? -1 : 0);
        }
        if (random.nextInt(30) > 0) {
            feed(told);
        }
        due("back " + t, house.back(t), plain.back(t));
    }

    private void check(int t) {
        int n = 0;
        int[] numbers = new int[20];
        for (int p = 0; p < 6 && !plain.noToy(t); p++) {
            boolean told = plain.kinds.get(plain.toys.get(t).kind).many()[p] > 0;
            if (told != (random.nextInt(40) == 0)) {
                numbers[2 * n] = p;
                numbers[2 * n + 1] = plain.toys.get(t).has[p] + (random.nextInt(40) == 0 ? 1 : 0);
                n++;
            }
        }
        n += random.nextInt(20) == 0 ? upTo(-1, 1) : 0;
        for (int start = 0; start < 20; start += 5) {
            int[] five = java.util.Arrays.copyOfRange(numbers, start, start + 5);
            due("feed", house.feed(five[0], five[1], five[2], five[3], five[4]), plain.feed(five));
        }
        n = random.nextInt(40) == 0 ? near(0, 30) : n;
        due("check " + t + " " + n, house.check(t, n), plain.check(t, n));
    }

    private void act() {
        int t = anyToy();
        int f = anyFamily();
        int k = anyKind();
        int die = random.nextInt(100);
        if (die < (calm ? 2 : 22)) {
            due("waits " + f + " " + k, house.waits(f, k), plain.waits(f, k));
        } else if (die < 45) {
            due("lend " + t + " " + f, house.lend(t, f), plain.lend(t, f));
        } else if (die < 62) {
            back(lentOne(t));
        } else if (die < 70) {
            int day = plain.now + (random.nextInt(12) == 0 ? upTo(-1, 60) : upTo(0, 9));
            due("now " + day, house.now(day), plain.now(day));
        } else if (die < 76) {
            due("wash " + t, house.wash(t), plain.wash(t));
        } else if (die < 79) {
            due("mend " + t, house.mend(t), plain.mend(t));
        } else if (die < 83) {
            rules();
        } else {
            rareAct(t, f, k, die);
        }
    }

    private int lentOne(int t) {
        for (int i = 0; i < plain.toys.size(); i++) {
            int one = (Math.floorMod(t, plain.toys.size()) + i) % plain.toys.size();
            if (plain.place(one) == 1 && random.nextInt(20) > 0) {
                return one;
            }
        }
        return t;
    }

    private void rareAct(int t, int f, int k, int die) {
        if (die == 83) {
            due("lost " + t, house.lost(t), plain.lost(t));
        } else if (die == 84 && random.nextBoolean()) {
            due("cull " + t, house.cull(t), plain.cull(t));
        } else if (die == 85) {
            int maker = random.nextBoolean() ? near(0, 5) : upTo(0, 1);
            int from = random.nextBoolean() ? near(0, 99) : upTo(0, 4);
            int to = random.nextBoolean() ? near(from, 99) : from + upTo(-1, 8);
            due("recall", house.recall(maker, from, to), plain.recall(maker, from, to));
        } else if (die < 90) {
            int r = near(0, Math.max(0, plain.recalls.size() - 1));
            due("told " + r + " " + f, house.told(r, f), plain.told(r, f));
        } else if (die == 90) {
            int term = near(0, 3);
            int[] high = {4, plain.families.size() - 1, 699, 5};
            int n = PlainHouse.in(term, 0, 3) ? near(0, high[term]) : 0;
            due("gift", house.gift(t, term, n), plain.gift(t, term, n));
        } else if (die < 93) {
            int pence = plain.noFamily(f) ? 1 : near(1, Math.max(1, plain.owed[f]));
            due("pays", house.pays(f, pence), plain.pays(f, pence));
        } else if (die == 93) {
            int days = near(0, 30);
            due("telling", house.telling(days), plain.telling(days));
        } else if (die == 94) {
            int weight = near(0, 2000);
            due("bag", house.bag(weight), plain.bag(weight));
        } else if (die == 95) {
            int p = near(0, 5);
            int n = random.nextBoolean() ? near(0, 600) : near(0, 3);
            due("minutes", house.minutes(p, n), plain.minutes(p, n));
        } else if (die == 96) {
            due("leaves", house.leaves(f, k), plain.leaves(f, k));
        } else if (die == 97) {
            check(t);
        } else if (die == 98) {
            toy();
            pieces(k, 0);
        } else {
            int[] wild = {random.nextInt(), random.nextInt(), random.nextInt(), random.nextInt(), random.nextInt()};
            due("feed", house.feed(wild[0], wild[1], wild[2], wild[3], wild[4]), plain.feed(wild));
        }
    }

    // ---- questions

    private void ask() {
        int t = anyToy();
        int f = anyFamily();
        int k = anyKind();
        int d = random.nextBoolean() ? near(1, 700) : near(1, 30);
        switch (random.nextInt(14)) {
            case 0, 1 -> due("not " + t + " " + f, house.not(t, f), plain.not(t, f));
            case 2, 3 -> {
                int what = near(0, 15);
                due("toyIs " + t + " " + what, house.toyIs(t, what), plain.toyIs(t, what));
            }
            case 4 -> {
                int what = near(0, 2);
                due("next " + k + " " + what, house.next(k, what), plain.next(k, what));
            }
            case 5 -> {
                int c = near(1, 9);
                due("rota " + c + " " + t, house.rota(c, t), plain.rota(c, t));
            }
            case 6 -> {
                int r = near(0, Math.max(0, plain.recalls.size() - 1));
                int what = near(0, 3);
                due("recalled " + r + " " + what, house.recalled(r, what), plain.recalled(r, what));
            }
            case 7 -> due("owes " + f, house.owes(f), plain.owes(f));
            case 8 -> {
                int what = near(0, 3);
                due("forgiving " + what, house.forgiving(what), plain.forgiving(what));
            }
            case 9 -> {
                int what = near(0, 1);
                due("peak " + what, house.peak(what), plain.peak(what));
            }
            case 10 -> due("unwanted " + d, house.unwanted(d), plain.unwanted(d));
            case 11 -> due("why " + t + " " + d, house.why(t, d), plain.why(t, d));
            case 12 -> {
                int day = near(0, plain.now);
                int known = random.nextBoolean() ? near(0, 699) : day + upTo(-1, 30);
                due("where " + t + " " + day + " " + known, house.where(t, day, known), plain.where(t, day, known));
            }
            default -> {
                int what = near(0, 30);
                due("count " + what, house.count(what), plain.count(what));
            }
        }
    }

    private void askDear() {
        int k = anyKind();
        switch (random.nextInt(5)) {
            case 0 -> {
                int t = anyToy();
                int weight = plain.noToy(t) ? 5 : Math.max(0, plain.weight(t) - upTo(-10, 300));
                int e = random.nextBoolean() ? near(0, 30) : random.nextBoolean() ? 0 : near(0, 2000);
                int what = random.nextBoolean() ? near(0, 3) : near(10, 15);
                due("weigh", house.weigh(t, weight, e, what), plain.weigh(t, weight, e, what));
            }
            case 1 -> {
                int what = near(0, 2);
                due("whole " + k + " " + what, house.whole(k, what), plain.whole(k, what));
            }
            case 2 -> {
                int coin = random.nextBoolean() ? near(0, 60000) : near(0, 2000);
                int weeks = random.nextBoolean() ? near(1, 99) : near(1, 7);
                int what = near(-1, 8);
                due("buying", house.buying(coin, weeks, what), plain.buying(coin, weeks, what));
            }
            case 3 -> {
                int village = near(0, 4);
                int n = near(1, 6);
                int what = near(0, 1);
                due("van", house.van(village, n, what), plain.van(village, n, what));
            }
            default -> {
                int all = random.nextBoolean() ? near(0, 6000) : near(0, 60);
                int what = near(0, 2);
                due("mending", house.mending(all, what), plain.mending(all, what));
            }
        }
    }

    // ---- texts of rules

    private String text() {
        StringBuilder text = new StringBuilder();
        int clauses = random.nextInt(10) == 0 ? upTo(14, 17) : upTo(1, 7);
        for (int i = 0; i < clauses; i++) {
            char letter = "dfpnnffwoauwp".charAt(random.nextInt(13));
            String clause = letter + ("dfpn".indexOf(letter) >= 0 ? value(clauses > 7 ? 9 : 1) : "")
                + "(" + condition(clauses > 7 ? 9 : letter == 'a' ? 3 : 2) + ")";
            if (text.length() + clause.length() + 1 <= 200) {
                text.append(i == 0 ? "" : ";").append(clause);
            }
        }
        if (text.length() == 0) {
            text.append("o(1=1)");
        }
        if (random.nextInt(8) == 0) {
            spoil(text);
        }
        return text.toString();
    }

    private void spoil(StringBuilder text) {
        String signs = ";([!)]|&<>=+-*/% 0123456789bx" + LETTERS + (char) 233 + (char) 0;
        int at = random.nextInt(text.length());
        String sign = String.valueOf(signs.charAt(random.nextInt(signs.length())));
        String more = random.nextInt(3) == 0 ? sign.repeat(upTo(1, 7)) : sign;
        switch (random.nextInt(3)) {
            case 0 -> text.replace(at, at + 1, more);
            case 1 -> text.insert(at, more);
            default -> text.deleteCharAt(at);
        }
        text.setLength(Math.max(1, Math.min(200, text.length())));
    }

    private String condition(int depth) {
        StringBuilder text = new StringBuilder(piece(depth));
        for (int i = random.nextInt(depth > 6 ? 1 : 3); i > 0; i--) {
            text.append(random.nextBoolean() ? '|' : '&').append(piece(depth + 1));
        }
        return text.toString();
    }

    private String piece(int depth) {
        int die = random.nextInt(10);
        if (depth < 6 && die == 0) {
            return "!" + piece(depth + 1);
        }
        if (depth < 6 && die == 1) {
            return "(" + condition(depth + 1) + ")";
        }
        if (die < 4) {
            return "1=1";
        }
        return value(depth) + "<>=".charAt(random.nextInt(3)) + value(depth);
    }

    private String value(int depth) {
        StringBuilder text = new StringBuilder(factor(depth));
        for (int i = random.nextInt(depth > 6 ? 1 : 3); i > 0; i--) {
            text.append("+-*/%".charAt(random.nextInt(5))).append(factor(depth + 1));
        }
        return text.toString();
    }

    private String factor(int depth) {
        int die = random.nextInt(12);
        if (depth < 6 && die == 0) {
            return "[" + value(depth + 1) + "]";
        }
        if (die == 1) {
            return String.valueOf(random.nextInt(100000));
        }
        return die < 5 ? String.valueOf(random.nextInt(20)) : String.valueOf(LETTERS.charAt(random.nextInt(17)));
    }
}
