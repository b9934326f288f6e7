import java.util.ArrayList;
import java.util.Arrays;

/** A house that lends toys to families. README.md says how it is used, ../shared/DOC.md what it promises. */
public final class ToyHouse {
    public static final int NONE = -1;

    private static final int CANNOT_BE = -2;
    private static final int NOBODY = -1000000;
    private static final int LAST_DAY = 699;
    private static final int MAX_KINDS = 8;
    private static final int MAX_TOYS = 16;
    private static final int MAX_FAMILIES = 10;
    private static final int MAX_RECALLS = 10;
    private static final int MAX_GIFTS = 20;
    private static final int MAX_LENDINGS = 300;
    private static final int SORTS = 6;
    private static final int ALL_SORTS = 63;
    private static final int MAX_AGE = 15;
    private static final int MAX_NEED = 9;
    private static final int MAX_VILLAGE = 4;
    private static final int MAX_MAKER = 5;
    private static final int MAX_BATCH = 99;
    private static final int MAX_TAPE = 220;
    private static final int MAX_TEXT = 200;
    private static final int MAX_CLAUSES = 16;
    private static final int MAX_OPEN = 6;
    private static final int MAX_DIGITS = 5;
    private static final int WEEKS = 53;
    private static final int YEAR = 365;
    private static final int LOUD = 7;

    private static final int IN_HOUSE = 0;
    private static final int LENT = 1;
    private static final int LOST = 2;
    private static final int CULLED = 3;
    private static final int WHERE_LOST = 20;

    private static final int FAULT_SIGN = 1;
    private static final int FAULT_DIGITS = 2;
    private static final int FAULT_CLAUSES = 4;
    private static final int FAULT_OPEN = 5;

    private static final int NO_FINE = 0;
    private static final int FINE_FORGIVEN = 1;
    private static final int FINE_OWED = 2;

    private static final String LETTERS = "kapzwmtnyevhdslqc";

    private int today;
    private int emptyBag;
    private int tellingDays;
    private int giftsGiven;
    private int tapeLength;
    private RuleText spareText;
    private final int[] tape;
    private final int[] minutesOfSort;
    private final int[] begunInWeek;
    private final int[] behindFines;
    private final ArrayList<Kind> kinds;
    private final ArrayList<Toy> toys;
    private final ArrayList<Family> families;
    private final ArrayList<Recall> recalls;
    private final Reckoner reckoner;
    private final Diary diary;
    private final Weighing weighing;
    private final Shopping shopping;
    private final Workshop workshop;
    private final Pairing pairing;

    public ToyHouse() {
        tape = new int[MAX_TAPE];
        minutesOfSort = new int[SORTS];
        Arrays.fill(minutesOfSort, 10);
        begunInWeek = new int[WEEKS];
        behindFines = new int[4];
        kinds = new ArrayList<Kind>();
        toys = new ArrayList<Toy>();
        families = new ArrayList<Family>();
        recalls = new ArrayList<Recall>();
        spareText = new RuleText();
        reckoner = new Reckoner(new RuleText());
        diary = new Diary();
        weighing = new Weighing();
        shopping = new Shopping();
        workshop = new Workshop();
        pairing = new Pairing();
    }

    // ---- what is told to the house

    public boolean now(int day) {
        if (day < today || day > LAST_DAY) {
            return false;
        }
        today = day;
        return true;
    }

    public int kind(int age, int price, int noise, int maker, int bears) {
        boolean right = within(age, 0, MAX_AGE) && within(price, 1, 20000) && within(noise, 0, 9)
                && within(maker, 0, MAX_MAKER) && within(bears, 1, 1000);
        if (!right || kinds.size() >= MAX_KINDS) {
            return NONE;
        }
        Kind kind = new Kind(kinds.size(), age, price, noise, maker, bears);
        kinds.add(kind);
        return kind.number;
    }

    public boolean pieces(int k, int sort, int many, int weight) {
        Kind kind = kindAt(k);
        if (kind == null || !within(sort, 0, SORTS - 1) || !within(many, 0, 6) || !within(weight, 1, 400)) {
            return false;
        }
        if (hasToys(kind)) {
            return false;
        }
        kind.many[sort] = many;
        kind.weight[sort] = weight;
        return true;
    }

    public int toy(int k, int batch) {
        Kind kind = kindAt(k);
        if (kind == null || !within(batch, 0, MAX_BATCH) || toys.size() >= MAX_TOYS) {
            return NONE;
        }
        Toy toy = new Toy(toys.size(), kind, batch, today);
        toys.add(toy);
        return toy.number;
    }

    public int family(int youngest, int need, int village) {
        boolean right = within(youngest, 0, MAX_AGE) && within(need, 0, MAX_NEED) && within(village, 0, MAX_VILLAGE);
        if (!right || families.size() >= MAX_FAMILIES) {
            return NONE;
        }
        Family family = new Family(families.size(), youngest, need, village);
        families.add(family);
        return family.number;
    }

    public boolean bag(int weight) {
        if (!within(weight, 0, 2000)) {
            return false;
        }
        emptyBag = weight;
        return true;
    }

    public boolean telling(int days) {
        if (!within(days, 0, 30)) {
            return false;
        }
        tellingDays = days;
        return true;
    }

    public boolean minutes(int sort, int n) {
        if (!within(sort, 0, SORTS - 1) || !within(n, 0, 600)) {
            return false;
        }
        minutesOfSort[sort] = n;
        return true;
    }

    public boolean gift(int t, int term, int n) {
        Toy toy = toyAt(t);
        if (toy == null || giftsGiven >= MAX_GIFTS || !isTerm(term, n)) {
            return false;
        }
        if (!toy.addTerm(term, n)) {
            return false;
        }
        giftsGiven++;
        return true;
    }

    // ---- the tape and the rules

    public int feed(int a, int b, int c, int d, int e) {
        if (tapeLength + 20 > MAX_TAPE) {
            return NONE;
        }
        addToTape(a);
        addToTape(b);
        addToTape(c);
        addToTape(d);
        addToTape(e);
        return tapeLength;
    }

    public int rules(int n) {
        if (!within(n, 1, MAX_TEXT) || n > tapeLength) {
            return NONE;
        }
        tapeLength = 0;
        if (!spareText.read(tape, n)) {
            return -1000 * spareText.fault - spareText.place;
        }
        RuleText before = reckoner.text;
        reckoner.text = spareText;
        spareText = before;
        return reckoner.text.clauses;
    }

    public int check(int t, int n) {
        Toy toy = toyAt(t);
        if (toy == null || n < 0 || n > tapeLength / 8) {
            return CANNOT_BE;
        }
        int wrong = firstWrongNumber(toy, 2 * n);
        tapeLength = 0;
        return wrong;
    }

    // ---- lending

    public int not(int t, int f) {
        Toy toy = toyAt(t);
        Family family = familyAt(f);
        if (toy == null || family == null) {
            return NONE;
        }
        return barrier(toy, family);
    }

    public int lend(int t, int f) {
        Toy toy = toyAt(t);
        Family family = familyAt(f);
        if (toy == null || family == null || diary.lendings >= MAX_LENDINGS || barrier(toy, family) != 0) {
            return NONE;
        }
        writeLetters(toy.kind, toy, family, 0);
        int days = reckoner.firstValue('d', 21, 1, 200);
        toy.goOut(family.number, today, today + days);
        family.stopWaiting(toy.kind.number);
        diary.lendings++;
        diary.write(toy.number, today, today + tellingDays, 1 + family.number);
        return toy.due;
    }

    public int back(int t) {
        Toy toy = toyAt(t);
        Family family = holderOf(toy);
        if (toy == null || family == null || tapeLength < SORTS) {
            return NONE;
        }
        tapeLength = 0;
        if (!toy.couldHave(tape)) {
            return CANNOT_BE;
        }
        int late = Math.max(0, today - toy.due);
        int missing = toy.comeBack(tape, today);
        int owed = settle(toy, family, late, missing);
        toy.leaveFamily(IN_HOUSE);
        diary.write(toy.number, today, today + tellingDays, 0);
        return owed;
    }

    public int lost(int t) {
        Toy toy = toyAt(t);
        Family family = holderOf(toy);
        if (toy == null || family == null) {
            return NONE;
        }
        writeLetters(toy.kind, toy, family, 0);
        int owed = toy.piecesTogether() * reckoner.firstValue('p', 0, 0, 100000);
        family.owed += owed;
        toy.leaveFamily(LOST);
        diary.write(toy.number, today, today + tellingDays, WHERE_LOST);
        return owed;
    }

    public boolean wash(int t) {
        Toy toy = toyAt(t);
        if (toy == null || !toy.mustBeWashed) {
            return false;
        }
        toy.mustBeWashed = false;
        return true;
    }

    public boolean cull(int t) {
        Toy toy = toyAt(t);
        if (toy == null || toy.place != IN_HOUSE) {
            return false;
        }
        toy.place = CULLED;
        return true;
    }

    public int mend(int t) {
        Toy toy = toyAt(t);
        if (toy == null || toy.place != IN_HOUSE || toy.lacking() == 0) {
            return NONE;
        }
        int got = toy.lacking();
        toy.makeWhole();
        return got;
    }

    // ---- what is asked of toys

    public int toyIs(int t, int what) {
        Toy toy = toyAt(t);
        if (toy == null) {
            return NONE;
        }
        switch (what) {
            case 0:
                return toy.place;
            case 1:
                return toy.holder;
            case 2:
                return toy.due;
            case 3:
                return toy.wear;
            case 4:
                return toy.timesLent;
            case 5:
                return toy.mustBeWashed ? 1 : 0;
            case 6:
                return isRecalled(toy) ? 1 : 0;
            case 7:
                return toy.lacking();
            case 8:
                return emptyBag + toy.weightOfPieces();
            default:
                return within(what, 10, 9 + SORTS) ? toy.has[what - 10] : NONE;
        }
    }

    public int weigh(int t, int weight, int e, int what) {
        Toy toy = toyAt(t);
        boolean asked = within(what, 0, 3) || within(what, 10, 9 + SORTS);
        if (toy == null || !asked || !within(weight, 0, 200000) || !within(e, 0, 2000)) {
            return NONE;
        }
        weighing.search(toy, emptyBag + toy.weightOfPieces() - weight, e);
        return weighing.ways == 0 ? CANNOT_BE : weighing.answer(what);
    }

    public int whole(int k, int what) {
        Kind kind = kindAt(k);
        if (kind == null || !within(what, 0, 2)) {
            return NONE;
        }
        int many = couldBeWhole(kind);
        if (what == 0) {
            return many;
        }
        int set = leastLackingSet(kind, many);
        return what == 1 ? lackingOfSet(set) : set;
    }

    public int where(int t, int day, int known) {
        if (toyAt(t) == null || !within(day, 0, today) || !within(known, day, LAST_DAY)) {
            return NONE;
        }
        return diary.placeOf(t, day, known);
    }

    public int rota(int c, int t) {
        Toy toy = toyAt(t);
        if (toy == null || !within(c, 1, 9) || !isToWash(toy)) {
            return NONE;
        }
        return today + washedAhead(toy) / c;
    }

    public int unwanted(int d) {
        if (!within(d, 1, LAST_DAY + 1)) {
            return NONE;
        }
        int set = 0;
        for (int t = 0; t < toys.size(); t++) {
            if (isUnwanted(toys.get(t), d)) {
                set |= 1 << t;
            }
        }
        return set;
    }

    public int why(int t, int d) {
        Toy toy = toyAt(t);
        if (toy == null || !within(d, 1, LAST_DAY + 1)) {
            return NONE;
        }
        return isUnwanted(toy, d) ? reasonUnwanted(toy) : 0;
    }

    // ---- who waits, and what the house plans for them

    public boolean waits(int f, int k) {
        Family family = familyAt(f);
        if (family == null || kindAt(k) == null || family.isWaiting(k)) {
            return false;
        }
        family.startWaiting(k, today);
        begunInWeek[weekOf(today)]++;
        return true;
    }

    public boolean leaves(int f, int k) {
        Family family = familyAt(f);
        if (family == null || kindAt(k) == null || !family.isWaiting(k)) {
            return false;
        }
        family.stopWaiting(k);
        return true;
    }

    public int next(int k, int what) {
        Kind kind = kindAt(k);
        if (kind == null || !within(what, 0, 2)) {
            return NOBODY;
        }
        if (what == 2) {
            return waitingFor(kind);
        }
        Family first = firstInTurn(kind);
        if (first == null) {
            return NOBODY;
        }
        return what == 0 ? first.number : turnOf(first, kind);
    }

    public int buying(int coin, int weeks, int what) {
        boolean asked = what == NONE || what == MAX_KINDS || kindAt(what) != null;
        if (!asked || !within(coin, 0, 60000) || !within(weeks, 1, 99)) {
            return NONE;
        }
        shopping.begin(coin);
        for (int k = 0; k < kinds.size(); k++) {
            Kind kind = kinds.get(k);
            shopping.offer(kind.price, waitingFor(kind), usableToys(kind), weeks);
        }
        shopping.search();
        if (what == NONE) {
            return shopping.servedMore();
        }
        return what == MAX_KINDS ? shopping.bestCoin : shopping.bought(what);
    }

    public int van(int village, int n, int what) {
        if (!within(village, 0, MAX_VILLAGE) || !within(n, 1, 6) || !within(what, 0, 1)) {
            return NONE;
        }
        for (int t = 0; t < toys.size(); t++) {
            pairing.allow(t, takersOf(toys.get(t), village));
        }
        int shelf = pairing.leastSet(toys.size(), n);
        return what == 0 ? shelf : Integer.bitCount(shelf);
    }

    public int mending(int all, int what) {
        if (!within(all, 0, 6000) || !within(what, 0, 2)) {
            return NONE;
        }
        workshop.begin(all);
        for (int t = 0; t < toys.size(); t++) {
            Toy toy = toys.get(t);
            if (toy.place == IN_HOUSE && toy.lacking() > 0) {
                workshop.offer(t, toy.minutesToMend(minutesOfSort), waitingFor(toy.kind) + 1);
            }
        }
        workshop.search();
        if (what == 0) {
            return workshop.bestSet;
        }
        return what == 1 ? workshop.bestMinutes : workshop.bestWorth;
    }

    public int peak(int what) {
        if (!within(what, 0, 1)) {
            return NONE;
        }
        int best = 0;
        for (int week = 1; week < WEEKS; week++) {
            if (begunInThreeWeeks(week) > begunInThreeWeeks(best)) {
                best = week;
            }
        }
        return what == 0 ? best : begunInThreeWeeks(best);
    }

    // ---- recalls

    public int recall(int maker, int from, int to) {
        boolean right = within(maker, 0, MAX_MAKER) && within(from, 0, MAX_BATCH) && within(to, from, MAX_BATCH);
        if (!right || recalls.size() >= MAX_RECALLS) {
            return NONE;
        }
        Recall recall = new Recall(maker, from, to, today);
        recall.holdersThen = holdersNow(recall);
        recalls.add(recall);
        return recalls.size() - 1;
    }

    public boolean told(int r, int f) {
        Recall recall = recallAt(r);
        if (recall == null || familyAt(f) == null || recall.wasTold(f)) {
            return false;
        }
        recall.tell(f, today);
        return true;
    }

    public int recalled(int r, int what) {
        Recall recall = recallAt(r);
        if (recall == null) {
            return NONE;
        }
        switch (what) {
            case 0:
                return toysOfRecall(recall);
            case 1:
                return recall.holdersThen;
            case 2:
                return recall.toldInTime();
            case 3:
                return holdersNow(recall) & ~recall.toldSet();
            default:
                return NONE;
        }
    }

    // ---- what is owed

    public int owes(int f) {
        Family family = familyAt(f);
        return family == null ? NONE : family.owed;
    }

    public int pays(int f, int pence) {
        Family family = familyAt(f);
        if (family == null || pence < 1 || pence > family.owed) {
            return NONE;
        }
        family.owed -= pence;
        return family.owed;
    }

    public int forgiving(int what) {
        return within(what, 0, behindFines.length - 1) ? behindFines[what] : NONE;
    }

    public int count(int what) {
        switch (what) {
            case 0:
                return today;
            case 1:
                return kinds.size();
            case 2:
                return toys.size();
            case 3:
                return families.size();
            case 4:
                return reckoner.text.clauses;
            case 5:
                return tapeLength;
            case 6:
                return recalls.size();
            case 7:
                return giftsGiven;
            case 8:
                return diary.acts;
            default:
                return countOfOne(what);
        }
    }

    private int countOfOne(int what) {
        if (what < 10) {
            return NONE;
        }
        if (what < 20) {
            Kind kind = kindAt(what - 10);
            return kind == null ? NONE : waitingFor(kind);
        }
        Family family = familyAt(what - 20);
        return family == null ? NONE : toysHeldBy(family);
    }

    // ---- looking up

    private static boolean within(int value, int low, int high) {
        return value >= low && value <= high;
    }

    private Kind kindAt(int k) {
        return within(k, 0, kinds.size() - 1) ? kinds.get(k) : null;
    }

    private Toy toyAt(int t) {
        return within(t, 0, toys.size() - 1) ? toys.get(t) : null;
    }

    private Family familyAt(int f) {
        return within(f, 0, families.size() - 1) ? families.get(f) : null;
    }

    private Recall recallAt(int r) {
        return within(r, 0, recalls.size() - 1) ? recalls.get(r) : null;
    }

    private Family holderOf(Toy toy) {
        return toy == null || toy.place != LENT ? null : familyAt(toy.holder);
    }

    private boolean hasToys(Kind kind) {
        for (int t = 0; t < toys.size(); t++) {
            if (toys.get(t).kind == kind) {
                return true;
            }
        }
        return false;
    }

    private boolean isTerm(int term, int n) {
        switch (term) {
            case Toy.ONLY_VILLAGE:
                return within(n, 0, MAX_VILLAGE);
            case Toy.NOT_FAMILY:
                return familyAt(n) != null;
            case Toy.NOT_BEHIND_DAY:
                return within(n, 0, LAST_DAY);
            case Toy.ONLY_NEED:
                return within(n, 0, MAX_NEED);
            default:
                return false;
        }
    }

    private int waitingFor(Kind kind) {
        int many = 0;
        for (int f = 0; f < families.size(); f++) {
            if (families.get(f).isWaiting(kind.number)) {
                many++;
            }
        }
        return many;
    }

    private int toysHeldBy(Family family) {
        int many = 0;
        for (int t = 0; t < toys.size(); t++) {
            if (toys.get(t).holder == family.number) {
                many++;
            }
        }
        return many;
    }

    private boolean isRecalled(Toy toy) {
        for (int r = 0; r < recalls.size(); r++) {
            if (recalls.get(r).covers(toy)) {
                return true;
            }
        }
        return false;
    }

    private int usableToys(Kind kind) {
        int many = 0;
        for (int t = 0; t < toys.size(); t++) {
            Toy toy = toys.get(t);
            if (toy.kind == kind && (toy.place == IN_HOUSE || toy.place == LENT) && !isRecalled(toy)) {
                many++;
            }
        }
        return many;
    }

    private int toysOfRecall(Recall recall) {
        int set = 0;
        for (int t = 0; t < toys.size(); t++) {
            if (recall.covers(toys.get(t))) {
                set |= 1 << t;
            }
        }
        return set;
    }

    private int holdersNow(Recall recall) {
        int set = 0;
        for (int t = 0; t < toys.size(); t++) {
            Toy toy = toys.get(t);
            if (toy.place == LENT && recall.covers(toy)) {
                set |= 1 << toy.holder;
            }
        }
        return set;
    }

    // ---- the tape

    private void addToTape(int four) {
        for (int shift = 24; shift >= 0 && tapeLength < MAX_TAPE; shift -= 8) {
            tape[tapeLength] = (four >>> shift) & 255;
            tapeLength++;
        }
    }

    private int tapeNumber(int place) {
        int number = 0;
        for (int i = 4 * place; i < 4 * place + 4; i++) {
            number = (number << 8) | (within(i, 0, MAX_TAPE - 1) ? tape[i] : 0);
        }
        return number;
    }

    private int firstWrongNumber(Toy toy, int numbers) {
        int place = 0;
        for (int sort = 0; sort < SORTS; sort++) {
            if (toy.kind.many[sort] > 0) {
                if (place >= numbers || tapeNumber(place) != sort) {
                    return place;
                }
                if (tapeNumber(place + 1) != toy.has[sort]) {
                    return place + 1;
                }
                place += 2;
            }
        }
        return place < numbers ? place : NONE;
    }

    // ---- lending by the rules

    /** The letters of the rules for a toy and a family; without a toy (in n) those of the kind and the family. */
    private void writeLetters(Kind kind, Toy toy, Family family, int late) {
        reckoner.setLetter('k', kind.number);
        reckoner.setLetter('a', kind.age);
        reckoner.setLetter('p', kind.price);
        reckoner.setLetter('z', kind.noise);
        reckoner.setLetter('w', toy == null ? 0 : toy.wear);
        reckoner.setLetter('m', toy == null ? 0 : toy.lacking());
        reckoner.setLetter('t', toy == null ? 0 : toy.number);
        reckoner.setLetter('n', toy == null ? 0 : toy.timesLent);
        reckoner.setLetter('y', family.youngest);
        reckoner.setLetter('e', family.need);
        reckoner.setLetter('v', family.village);
        reckoner.setLetter('h', toysHeldBy(family));
        reckoner.setLetter('d', today);
        reckoner.setLetter('s', today % YEAR);
        reckoner.setLetter('l', late);
        reckoner.setLetter('q', family.daysWaited(kind.number, today));
        reckoner.setLetter('c', waitingFor(kind));
    }

    /** Why a toy could not be lent to a family now; 0: it could. */
    private int barrier(Toy toy, Family family) {
        if (toy.place != IN_HOUSE) {
            return 1;
        }
        if (toy.mustBeWashed) {
            return 2;
        }
        if (isRecalled(toy)) {
            return 3;
        }
        if (toy.isWorn()) {
            return 4;
        }
        if (toy.termsBar(family, today)) {
            return 5;
        }
        writeLetters(toy.kind, toy, family, 0);
        if (!reckoner.allHold('a')) {
            return 6;
        }
        return reckoner.someHolds('u') ? 7 : 0;
    }

    /** A toy that came back, as it came back, is still with its family here: so its letters want it. */
    private int settle(Toy toy, Family family, int late, int missing) {
        writeLetters(toy.kind, toy, family, late);
        int fine = reckoner.firstValue('f', 0, 0, 100000);
        boolean forgiven = reckoner.someHolds('o');
        int owed = missing * reckoner.firstValue('p', 0, 0, 100000) + (forgiven ? 0 : fine);
        toy.mustBeWashed = reckoner.someHolds('w');
        family.owed += owed;
        noteBehindFine(family.lastFine, late);
        family.lastFine = fine == 0 ? NO_FINE : forgiven ? FINE_FORGIVEN : FINE_OWED;
        return owed;
    }

    private void noteBehindFine(int fineBefore, int late) {
        if (fineBefore == NO_FINE) {
            return;
        }
        int first = fineBefore == FINE_FORGIVEN ? 0 : 2;
        behindFines[first]++;
        if (late > 0) {
            behindFines[first + 1]++;
        }
    }

    private int turnOf(Family family, Kind kind) {
        writeLetters(kind, null, family, 0);
        return reckoner.firstValue('n', 0, -100000, 100000);
    }

    private Family firstInTurn(Kind kind) {
        Family first = null;
        int bestTurn = 0;
        for (int f = 0; f < families.size(); f++) {
            Family family = families.get(f);
            if (family.isWaiting(kind.number)) {
                int turn = turnOf(family, kind);
                boolean like = first != null && turn == bestTurn;
                boolean longer = like && family.daysWaited(kind.number, today) > first.daysWaited(kind.number, today);
                if (first == null || turn > bestTurn || longer) {
                    first = family;
                    bestTurn = turn;
                }
            }
        }
        return first;
    }

    private int takersOf(Toy toy, int village) {
        int set = 0;
        for (int f = 0; f < families.size(); f++) {
            Family family = families.get(f);
            boolean asks = family.village == village && family.isWaiting(toy.kind.number);
            if (asks && barrier(toy, family) == 0) {
                set |= 1 << f;
            }
        }
        return set;
    }

    // ---- halves made whole

    private boolean isForWhole(Toy toy, Kind kind) {
        return toy.kind == kind && toy.place == IN_HOUSE && !isRecalled(toy);
    }

    private int couldBeWhole(Kind kind) {
        int many = 0;
        for (int t = 0; t < toys.size(); t++) {
            if (isForWhole(toys.get(t), kind)) {
                many++;
            }
        }
        for (int sort = 0; sort < SORTS; sort++) {
            if (kind.many[sort] > 0) {
                many = Math.min(many, piecesForWhole(kind, sort) / kind.many[sort]);
            }
        }
        return many;
    }

    private int piecesForWhole(Kind kind, int sort) {
        int pieces = 0;
        for (int t = 0; t < toys.size(); t++) {
            if (isForWhole(toys.get(t), kind)) {
                pieces += toys.get(t).has[sort];
            }
        }
        return pieces;
    }

    /** Taking the least lacking toy, the lowest of like ones, so many times makes the least set of all. */
    private int leastLackingSet(Kind kind, int many) {
        int set = 0;
        for (int i = 0; i < many; i++) {
            int best = NONE;
            int bestLacking = 0;
            for (int t = 0; t < toys.size(); t++) {
                Toy toy = toys.get(t);
                boolean free = (set >> t & 1) == 0 && isForWhole(toy, kind);
                if (free && (best == NONE || toy.lacking() < bestLacking)) {
                    best = t;
                    bestLacking = toy.lacking();
                }
            }
            if (best != NONE) {
                set |= 1 << best;
            }
        }
        return set;
    }

    private int lackingOfSet(int set) {
        int lacking = 0;
        for (int t = 0; t < toys.size(); t++) {
            if ((set >> t & 1) == 1) {
                lacking += toys.get(t).lacking();
            }
        }
        return lacking;
    }

    // ---- washing, the peak, the unwanted

    private boolean isToWash(Toy toy) {
        return toy.place == IN_HOUSE && toy.mustBeWashed;
    }

    private int washedAhead(Toy toy) {
        int wanted = waitingFor(toy.kind);
        int ahead = 0;
        for (int t = 0; t < toys.size(); t++) {
            Toy other = toys.get(t);
            if (isToWash(other)) {
                int otherWanted = waitingFor(other.kind);
                if (otherWanted > wanted || otherWanted == wanted && t < toy.number) {
                    ahead++;
                }
            }
        }
        return ahead;
    }

    private static int weekOf(int day) {
        return day % YEAR / 7;
    }

    private int begunInThreeWeeks(int week) {
        int begun = 0;
        for (int i = 0; i < 3; i++) {
            begun += begunInWeek[(week + i) % WEEKS];
        }
        return begun;
    }

    private boolean isUnwanted(Toy toy, int days) {
        return toy.place == IN_HOUSE && today - toy.cameOn >= days && waitingFor(toy.kind) == 0;
    }

    private int reasonUnwanted(Toy toy) {
        if (isRecalled(toy)) {
            return 1;
        }
        if (toy.mustBeWashed) {
            return 2;
        }
        if (toy.lacking() > 0) {
            return 3;
        }
        if (toy.isWorn()) {
            return 4;
        }
        if (toy.kind.noise >= LOUD) {
            return 5;
        }
        if (isTooOldForAll(toy.kind)) {
            return 6;
        }
        return isBarredForAll(toy) ? 7 : 8;
    }

    private boolean isTooOldForAll(Kind kind) {
        for (int f = 0; f < families.size(); f++) {
            if (kind.age <= families.get(f).youngest) {
                return false;
            }
        }
        return families.size() > 0;
    }

    private boolean isBarredForAll(Toy toy) {
        for (int f = 0; f < families.size(); f++) {
            if (!toy.termsBar(families.get(f), today)) {
                return false;
            }
        }
        return families.size() > 0;
    }

    // ---- what the house holds

    private static final class Kind {
        final int number;
        final int age;
        final int price;
        final int noise;
        final int maker;
        final int bears;
        final int[] many;
        final int[] weight;

        Kind(int number, int age, int price, int noise, int maker, int bears) {
            this.number = number;
            this.age = age;
            this.price = price;
            this.noise = noise;
            this.maker = maker;
            this.bears = bears;
            many = new int[SORTS];
            weight = new int[SORTS];
        }
    }

    private static final class Toy {
        static final int ONLY_VILLAGE = 0;
        static final int NOT_FAMILY = 1;
        static final int NOT_BEHIND_DAY = 2;
        static final int ONLY_NEED = 3;

        final int number;
        final Kind kind;
        final int batch;
        final int[] has;
        final int[] terms;
        final int[] termNumbers;
        int termCount;
        int place;
        int holder;
        int due;
        int lentOn;
        int cameOn;
        int wear;
        int timesLent;
        boolean mustBeWashed;

        Toy(int number, Kind kind, int batch, int day) {
            this.number = number;
            this.kind = kind;
            this.batch = batch;
            has = kind.many.clone();
            terms = new int[MAX_GIFTS];
            termNumbers = new int[MAX_GIFTS];
            place = IN_HOUSE;
            holder = NONE;
            due = NONE;
            cameOn = day;
        }

        boolean addTerm(int term, int n) {
            if (termCount >= MAX_GIFTS) {
                return false;
            }
            terms[termCount] = term;
            termNumbers[termCount] = n;
            termCount++;
            return true;
        }

        boolean termsBar(Family family, int day) {
            for (int i = 0; i < termCount && i < MAX_GIFTS; i++) {
                if (termBars(terms[i], termNumbers[i], family, day)) {
                    return true;
                }
            }
            return false;
        }

        private static boolean termBars(int term, int n, Family family, int day) {
            switch (term) {
                case ONLY_VILLAGE:
                    return family.village != n;
                case NOT_FAMILY:
                    return family.number == n;
                case NOT_BEHIND_DAY:
                    return day > n;
                default:
                    return family.need < n;
            }
        }

        void goOut(int family, int day, int dueDay) {
            place = LENT;
            holder = family;
            lentOn = day;
            due = dueDay;
            timesLent++;
        }

        boolean couldHave(int[] told) {
            for (int sort = 0; sort < SORTS && sort < told.length; sort++) {
                if (told[sort] > has[sort]) {
                    return false;
                }
            }
            return true;
        }

        /** It has what is told, and is worn by its days out: how many pieces it had and has no more. */
        int comeBack(int[] told, int day) {
            int missing = 0;
            for (int sort = 0; sort < SORTS && sort < told.length; sort++) {
                missing += has[sort] - told[sort];
                has[sort] = told[sort];
            }
            wear += Math.max(1, day - lentOn);
            cameOn = day;
            return missing;
        }

        void leaveFamily(int newPlace) {
            place = newPlace;
            holder = NONE;
            due = NONE;
        }

        boolean isWorn() {
            return wear >= kind.bears;
        }

        int piecesTogether() {
            int pieces = 0;
            for (int sort = 0; sort < SORTS; sort++) {
                pieces += has[sort];
            }
            return pieces;
        }

        int lacking() {
            int lacking = 0;
            for (int sort = 0; sort < SORTS; sort++) {
                lacking += kind.many[sort] - has[sort];
            }
            return lacking;
        }

        int weightOfPieces() {
            int weight = 0;
            for (int sort = 0; sort < SORTS; sort++) {
                weight += has[sort] * kind.weight[sort];
            }
            return weight;
        }

        int minutesToMend(int[] minutesOfSort) {
            int minutes = 0;
            for (int sort = 0; sort < SORTS && sort < minutesOfSort.length; sort++) {
                minutes += (kind.many[sort] - has[sort]) * minutesOfSort[sort];
            }
            return minutes;
        }

        void makeWhole() {
            System.arraycopy(kind.many, 0, has, 0, SORTS);
        }
    }

    private static final class Family {
        final int number;
        final int youngest;
        final int need;
        final int village;
        final int[] waitsSince;
        int owed;
        int lastFine;

        Family(int number, int youngest, int need, int village) {
            this.number = number;
            this.youngest = youngest;
            this.need = need;
            this.village = village;
            waitsSince = new int[MAX_KINDS];
            Arrays.fill(waitsSince, NONE);
        }

        boolean isWaiting(int k) {
            return within(k, 0, MAX_KINDS - 1) && waitsSince[k] != NONE;
        }

        int daysWaited(int k, int day) {
            return isWaiting(k) ? day - waitsSince[k] : 0;
        }

        void startWaiting(int k, int day) {
            if (within(k, 0, MAX_KINDS - 1)) {
                waitsSince[k] = day;
            }
        }

        void stopWaiting(int k) {
            if (within(k, 0, MAX_KINDS - 1)) {
                waitsSince[k] = NONE;
            }
        }
    }

    private static final class Recall {
        final int maker;
        final int from;
        final int to;
        final int day;
        final int[] toldOn;
        int holdersThen;

        Recall(int maker, int from, int to, int day) {
            this.maker = maker;
            this.from = from;
            this.to = to;
            this.day = day;
            toldOn = new int[MAX_FAMILIES];
            Arrays.fill(toldOn, NONE);
        }

        boolean covers(Toy toy) {
            return toy.kind.maker == maker && within(toy.batch, from, to);
        }

        boolean wasTold(int f) {
            return within(f, 0, MAX_FAMILIES - 1) && toldOn[f] != NONE;
        }

        void tell(int f, int onDay) {
            if (within(f, 0, MAX_FAMILIES - 1)) {
                toldOn[f] = onDay;
            }
        }

        int toldSet() {
            int set = 0;
            for (int f = 0; f < MAX_FAMILIES; f++) {
                if (wasTold(f)) {
                    set |= 1 << f;
                }
            }
            return set;
        }

        int toldInTime() {
            int many = 0;
            for (int f = 0; f < MAX_FAMILIES; f++) {
                boolean had = (holdersThen >> f & 1) == 1;
                if (had && wasTold(f) && toldOn[f] <= day + 1) {
                    many++;
                }
            }
            return many;
        }
    }

    /** The acts in their order; each lending ends at most once, so twice the lendings is room for all. */
    private static final class Diary {
        final int[] toyOf;
        final int[] dayOf;
        final int[] knownFrom;
        final int[] placeAfter;
        int acts;
        int lendings;

        Diary() {
            toyOf = new int[2 * MAX_LENDINGS];
            dayOf = new int[2 * MAX_LENDINGS];
            knownFrom = new int[2 * MAX_LENDINGS];
            placeAfter = new int[2 * MAX_LENDINGS];
        }

        void write(int toy, int day, int known, int place) {
            if (acts < 2 * MAX_LENDINGS) {
                toyOf[acts] = toy;
                dayOf[acts] = day;
                knownFrom[acts] = known;
                placeAfter[acts] = place;
                acts++;
            }
        }

        int placeOf(int toy, int day, int known) {
            for (int i = Math.min(acts, 2 * MAX_LENDINGS) - 1; i >= 0; i--) {
                if (toyOf[i] == toy && dayOf[i] <= day && knownFrom[i] <= known) {
                    return placeAfter[i];
                }
            }
            return 0;
        }
    }

    // ---- the rules

    /**
     * The clauses of a text of rules. Reading it writes each clause down as steps for the Reckoner: an expression
     * or condition leaves one number on its stack, and | and & jump ahead over what need not be asked.
     */
    private static final class RuleText {
        static final int NUMBER = '0';
        static final int LETTER = 'a';

        final int[] steps;
        final int[] operands;
        final int[] letterOf;
        final int[] valueFrom;
        final int[] conditionFrom;
        final int[] conditionTo;
        int[] signs;
        int length;
        int at;
        int stepCount;
        int clauses;
        int fault;
        int place;

        RuleText() {
            // no sign of a text makes more than one step
            steps = new int[MAX_TEXT];
            operands = new int[MAX_TEXT];
            letterOf = new int[MAX_CLAUSES];
            valueFrom = new int[MAX_CLAUSES];
            conditionFrom = new int[MAX_CLAUSES];
            conditionTo = new int[MAX_CLAUSES];
            signs = new int[0];
        }

        /** Whether the first n signs are right; if not, fault and place tell what is wrong first. */
        boolean read(int[] from, int n) {
            signs = from;
            length = Math.min(n, from.length);
            at = 0;
            stepCount = 0;
            clauses = 0;
            fault = 0;
            place = 0;
            for (int i = 0; i <= MAX_CLAUSES; i++) {
                if (!readClause()) {
                    return false;
                }
                if (at >= length) {
                    return true;
                }
                if (!readSign(';')) {
                    return false;
                }
            }
            return false;
        }

        private int here() {
            return at >= 0 && at < length && at < signs.length ? signs[at] : NONE;
        }

        private boolean failed(int number) {
            fault = number;
            place = at;
            return false;
        }

        private boolean readSign(int sign) {
            if (here() != sign) {
                return failed(FAULT_SIGN);
            }
            at++;
            return true;
        }

        private void addStep(int step, int operand) {
            if (stepCount < MAX_TEXT) {
                steps[stepCount] = step;
                operands[stepCount] = operand;
                stepCount++;
            }
        }

        private void endJump(int step) {
            if (step < MAX_TEXT) {
                operands[step] = stepCount;
            }
        }

        private static boolean hasValue(int letter) {
            return letter == 'd' || letter == 'f' || letter == 'p' || letter == 'n';
        }

        private static boolean hasNoValue(int letter) {
            return letter == 'a' || letter == 'w' || letter == 'o' || letter == 'u';
        }

        private boolean readClause() {
            int letter = here();
            if (!hasValue(letter) && !hasNoValue(letter)) {
                return failed(FAULT_SIGN);
            }
            if (clauses >= MAX_CLAUSES) {
                return failed(FAULT_CLAUSES);
            }
            int clause = clauses;
            clauses++;
            at++;
            letterOf[clause] = letter;
            valueFrom[clause] = stepCount;
            if (hasValue(letter) && !readExpression(0)) {
                return false;
            }
            conditionFrom[clause] = stepCount;
            boolean right = readInBrackets(0);
            conditionTo[clause] = stepCount;
            return right;
        }

        private boolean readInBrackets(int open) {
            if (here() == '(' && open >= MAX_OPEN) {
                return failed(FAULT_OPEN);
            }
            return readSign('(') && readCondition(open + 1) && readSign(')');
        }

        private boolean readCondition(int open) {
            boolean right = readPart(open);
            for (int i = 0; i < MAX_TEXT && right && here() == '|'; i++) {
                at++;
                int jump = stepCount;
                addStep('|', 0);
                right = readPart(open);
                endJump(jump);
            }
            return right;
        }

        private boolean readPart(int open) {
            boolean right = readPiece(open);
            for (int i = 0; i < MAX_TEXT && right && here() == '&'; i++) {
                at++;
                int jump = stepCount;
                addStep('&', 0);
                right = readPiece(open);
                endJump(jump);
            }
            return right;
        }

        private boolean readPiece(int open) {
            int sign = here();
            if (sign == '(') {
                return readInBrackets(open);
            }
            if (sign != '!') {
                return readComparison(open);
            }
            if (open >= MAX_OPEN) {
                return failed(FAULT_OPEN);
            }
            at++;
            boolean right = readPiece(open + 1);
            addStep('!', 0);
            return right;
        }

        private boolean readComparison(int open) {
            if (!readExpression(open)) {
                return false;
            }
            int sign = here();
            if (sign != '<' && sign != '>' && sign != '=') {
                return failed(FAULT_SIGN);
            }
            at++;
            boolean right = readExpression(open);
            addStep(sign, 0);
            return right;
        }

        private boolean readExpression(int open) {
            boolean right = readTerm(open);
            for (int i = 0; i < MAX_TEXT && right && (here() == '+' || here() == '-'); i++) {
                int sign = here();
                at++;
                right = readTerm(open);
                addStep(sign, 0);
            }
            return right;
        }

        private boolean readTerm(int open) {
            boolean right = readFactor(open);
            for (int i = 0; i < MAX_TEXT && right && (here() == '*' || here() == '/' || here() == '%'); i++) {
                int sign = here();
                at++;
                right = readFactor(open);
                addStep(sign, 0);
            }
            return right;
        }

        private boolean readFactor(int open) {
            int sign = here();
            if (isDigit(sign)) {
                return readNumber();
            }
            if (sign >= 'a' && sign <= 'z' && LETTERS.indexOf((char) sign) >= 0) {
                at++;
                addStep(LETTER, sign - 'a');
                return true;
            }
            if (sign == '[' && open >= MAX_OPEN) {
                return failed(FAULT_OPEN);
            }
            return readSign('[') && readExpression(open + 1) && readSign(']');
        }

        private boolean readNumber() {
            int number = 0;
            for (int i = 0; i < MAX_DIGITS && isDigit(here()); i++) {
                number = 10 * number + here() - '0';
                at++;
            }
            addStep(NUMBER, number);
            return isDigit(here()) ? failed(FAULT_DIGITS) : true;
        }

        private static boolean isDigit(int sign) {
            return sign >= '0' && sign <= '9';
        }
    }

    /** Takes the steps of the standing rules for the letters that were set; true is 1 on the stack, false 0. */
    private static final class Reckoner {
        final int[] letters;
        final int[] stack;
        RuleText text;
        int top;
        boolean refused;

        Reckoner(RuleText text) {
            this.text = text;
            letters = new int[26];
            stack = new int[MAX_TEXT];
        }

        void setLetter(char letter, int value) {
            if (letter >= 'a' && letter <= 'z') {
                letters[letter - 'a'] = value;
            }
        }

        int firstValue(char letter, int none, int low, int high) {
            for (int i = 0; i < text.clauses && i < MAX_CLAUSES; i++) {
                if (text.letterOf[i] == letter && clauseHolds(i)) {
                    int value = result(text.valueFrom[i], text.conditionFrom[i]);
                    return Math.max(low, Math.min(high, value));
                }
            }
            return none;
        }

        boolean someHolds(char letter) {
            for (int i = 0; i < text.clauses && i < MAX_CLAUSES; i++) {
                if (text.letterOf[i] == letter && clauseHolds(i)) {
                    return true;
                }
            }
            return false;
        }

        boolean allHold(char letter) {
            for (int i = 0; i < text.clauses && i < MAX_CLAUSES; i++) {
                if (text.letterOf[i] == letter && !clauseHolds(i)) {
                    return false;
                }
            }
            return true;
        }

        private boolean clauseHolds(int i) {
            return within(i, 0, MAX_CLAUSES - 1) && result(text.conditionFrom[i], text.conditionTo[i]) != 0;
        }

        /** What steps leave on the stack; 0, which as a condition does not hold, if they are refused. */
        private int result(int from, int to) {
            refused = false;
            top = 0;
            for (int i = Math.max(0, from); i < to && i < MAX_TEXT && !refused; i++) {
                int step = text.steps[i];
                int operand = text.operands[i];
                if (step == '|' || step == '&') {
                    boolean holds = pop() != 0;
                    if (holds == (step == '|')) {
                        push(holds ? 1 : 0);
                        i = Math.max(i, operand - 1);
                    }
                } else {
                    take(step, operand);
                }
            }
            return refused ? 0 : pop();
        }

        private void take(int step, int operand) {
            if (step == RuleText.NUMBER) {
                push(operand);
            } else if (step == RuleText.LETTER) {
                push(operand >= 0 && operand < letters.length ? letters[operand] : 0);
            } else if (step == '!') {
                push(pop() == 0 ? 1 : 0);
            } else {
                int right = pop();
                int left = pop();
                push(joined(left, step, right));
            }
        }

        private int joined(int left, int sign, int right) {
            switch (sign) {
                case '+':
                    return left + right;
                case '-':
                    return left - right;
                case '*':
                    return left * right;
                case '<':
                    return left < right ? 1 : 0;
                case '>':
                    return left > right ? 1 : 0;
                case '=':
                    return left == right ? 1 : 0;
                default:
                    break;
            }
            if (right == 0) {
                refused = true;
                return 0;
            }
            return sign == '/' ? left / right : left % right;
        }

        private void push(int value) {
            if (top < MAX_TEXT) {
                stack[top] = value;
                top++;
            }
        }

        private int pop() {
            if (top <= 0) {
                return 0;
            }
            top--;
            return stack[top];
        }
    }

    // ---- searches

    /** All ways what lacks could be, by a weight; ways come in the order of rows, so the first of like ones stays. */
    private static final class Weighing {
        final int[] row;
        final int[] fewestRow;
        final int[] weightFrom;
        final int[] waysFrom;
        final int[] sortsFrom;
        int low;
        int high;
        int ways;
        int fewest;
        int lacksInSome;
        int wholeInSome;

        Weighing() {
            row = new int[SORTS];
            fewestRow = new int[SORTS];
            weightFrom = new int[SORTS + 1];
            waysFrom = new int[SORTS + 1];
            sortsFrom = new int[SORTS + 1];
            waysFrom[SORTS] = 1;
        }

        void search(Toy toy, int lackingWeight, int error) {
            low = lackingWeight - error;
            high = lackingWeight + error;
            ways = 0;
            fewest = 0;
            lacksInSome = 0;
            wholeInSome = 0;
            for (int sort = SORTS - 1; sort >= 0; sort--) {
                int has = toy.has[sort];
                weightFrom[sort] = weightFrom[sort + 1] + has * toy.kind.weight[sort];
                waysFrom[sort] = waysFrom[sort + 1] * (has + 1);
                sortsFrom[sort] = has == 0 ? sortsFrom[sort + 1] : sortsFrom[sort + 1] | 1 << sort;
            }
            tryFrom(toy, 0, 0, 0, 0);
        }

        private void tryFrom(Toy toy, int sort, int weight, int lacking, int lackingSorts) {
            if (weight > high || !within(sort, 0, SORTS) || weight + weightFrom[sort] < low) {
                return;
            }
            // behind the last sort this is always so
            if (weight >= low && weight + weightFrom[sort] <= high || sort == SORTS) {
                keepAllFrom(sort, lacking, lackingSorts);
                return;
            }
            for (int n = 0; n <= toy.has[sort]; n++) {
                row[sort] = n;
                int sorts = n == 0 ? lackingSorts : lackingSorts | 1 << sort;
                tryFrom(toy, sort + 1, weight + n * toy.kind.weight[sort], lacking + n, sorts);
            }
        }

        /** Whatever lacks of the sorts from this one on, the weight is near enough; by the fewest nothing of them does. */
        private void keepAllFrom(int sort, int lacking, int lackingSorts) {
            if (ways == 0 || lacking < fewest) {
                fewest = lacking;
                Arrays.fill(fewestRow, 0);
                System.arraycopy(row, 0, fewestRow, 0, sort);
            }
            ways += waysFrom[sort];
            lacksInSome |= lackingSorts | sortsFrom[sort];
            wholeInSome |= ALL_SORTS & ~lackingSorts;
        }

        int answer(int what) {
            switch (what) {
                case 0:
                    return ways;
                case 1:
                    return ALL_SORTS & ~lacksInSome;
                case 2:
                    return ALL_SORTS & ~wholeInSome;
                case 3:
                    return fewest;
                default:
                    return within(what, 10, 9 + SORTS) ? fewestRow[what - 10] : NONE;
            }
        }
    }

    /** The buying: rows are tried in their order, and one takes the place of another only if it is better. */
    private static final class Shopping {
        static final int MOST_NEW = 3;

        final int[] prices;
        final int[][] served;
        final int[] servedFrom;
        final int[] row;
        final int[] bestRow;
        int size;
        int coin;
        int servedNow;
        int bestServed;
        int bestCoin;

        Shopping() {
            prices = new int[MAX_KINDS];
            served = new int[MAX_KINDS][MOST_NEW + 1];
            servedFrom = new int[MAX_KINDS + 1];
            row = new int[MAX_KINDS];
            bestRow = new int[MAX_KINDS];
        }

        void begin(int allCoin) {
            size = 0;
            coin = allCoin;
            servedNow = 0;
            bestServed = NONE;
            bestCoin = 0;
        }

        void offer(int price, int waiting, int toysThere, int weeks) {
            if (size >= MAX_KINDS) {
                return;
            }
            prices[size] = price;
            for (int n = 0; n <= MOST_NEW; n++) {
                served[size][n] = Math.min(waiting, (toysThere + n) * weeks / 3);
            }
            servedNow += served[size][0];
            size++;
        }

        void search() {
            servedFrom[size] = 0;
            for (int k = size - 1; k >= 0; k--) {
                servedFrom[k] = servedFrom[k + 1] + served[k][MOST_NEW];
            }
            tryFrom(0, 0, 0);
        }

        private void tryFrom(int k, int spent, int servedSoFar) {
            if (spent > coin || !within(k, 0, size)) {
                return;
            }
            int atMost = servedSoFar + servedFrom[k];
            if (atMost < bestServed || atMost == bestServed && spent >= bestCoin) {
                return;
            }
            if (k == size) {
                bestServed = servedSoFar;
                bestCoin = spent;
                System.arraycopy(row, 0, bestRow, 0, size);
                return;
            }
            for (int n = 0; n <= MOST_NEW; n++) {
                // one that serves nobody more only costs coin: no row with it can be the best
                if (n == 0 || served[k][n] > served[k][n - 1]) {
                    row[k] = n;
                    tryFrom(k + 1, spent + n * prices[k], servedSoFar + served[k][n]);
                }
            }
        }

        int servedMore() {
            return bestServed - servedNow;
        }

        int bought(int k) {
            return within(k, 0, size - 1) ? bestRow[k] : NONE;
        }
    }

    /** Mending: sets are tried from the least number on, and one takes another's place only if it is better. */
    private static final class Workshop {
        final int[] toyNumbers;
        final int[] minutesOf;
        final int[] worthOf;
        final int[] worthBelow;
        int size;
        int limit;
        int bestSet;
        int bestMinutes;
        int bestWorth;

        Workshop() {
            toyNumbers = new int[MAX_TOYS];
            minutesOf = new int[MAX_TOYS];
            worthOf = new int[MAX_TOYS];
            worthBelow = new int[MAX_TOYS + 1];
        }

        void begin(int allMinutes) {
            size = 0;
            limit = allMinutes;
            bestSet = 0;
            bestMinutes = 0;
            bestWorth = NONE;
        }

        void offer(int toy, int minutes, int worth) {
            if (size >= MAX_TOYS) {
                return;
            }
            toyNumbers[size] = toy;
            minutesOf[size] = minutes;
            worthOf[size] = worth;
            worthBelow[size + 1] = worthBelow[size] + worth;
            size++;
        }

        void search() {
            tryBelow(size, 0, 0, 0);
        }

        private void tryBelow(int i, int set, int spent, int worth) {
            if (spent > limit || !within(i, 0, size)) {
                return;
            }
            int atMost = worth + worthBelow[i];
            if (atMost < bestWorth || atMost == bestWorth && spent >= bestMinutes) {
                return;
            }
            if (i == 0) {
                bestSet = set;
                bestMinutes = spent;
                bestWorth = worth;
                return;
            }
            tryBelow(i - 1, set, spent, worth);
            tryBelow(i - 1, set | 1 << toyNumbers[i - 1], spent + minutesOf[i - 1], worth + worthOf[i - 1]);
        }
    }

    /**
     * Toys paired with families. A toy once paired stays so when later ones come (only its family may change),
     * so taking toys from the lowest on, each that can be paired too, makes the least of the largest sets.
     */
    private static final class Pairing {
        final int[] allowed;
        final int[] toyOf;
        int seen;

        Pairing() {
            allowed = new int[MAX_TOYS];
            toyOf = new int[MAX_FAMILIES];
        }

        void allow(int toy, int familySet) {
            if (within(toy, 0, MAX_TOYS - 1)) {
                allowed[toy] = familySet;
            }
        }

        int leastSet(int toyCount, int most) {
            Arrays.fill(toyOf, NONE);
            int set = 0;
            int size = 0;
            for (int t = 0; t < toyCount && t < MAX_TOYS && size < most; t++) {
                seen = 0;
                if (findFamily(t, 0)) {
                    set |= 1 << t;
                    size++;
                }
            }
            return set;
        }

        private boolean findFamily(int toy, int depth) {
            if (depth > MAX_FAMILIES || !within(toy, 0, MAX_TOYS - 1)) {
                return false;
            }
            for (int f = 0; f < MAX_FAMILIES; f++) {
                boolean open = (allowed[toy] >> f & 1) == 1 && (seen >> f & 1) == 0;
                if (open) {
                    seen |= 1 << f;
                    if (toyOf[f] == NONE || findFamily(toyOf[f], depth + 1)) {
                        toyOf[f] = toy;
                        return true;
                    }
                }
            }
            return false;
        }
    }
}
