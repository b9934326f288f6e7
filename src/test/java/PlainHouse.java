import java.util.ArrayList;
import java.util.HashMap;
import java.util.List;
import java.util.Map;
import java.util.TreeMap;

/**
 * The document once more, as plainly as can be: it keeps what happened and looks everything up in it, and tries all
 * sets, rows and ways. A boolean is answered as 1 or 0. It stands beside the class to be compared with it.
 */
final class PlainHouse {
    record Kind(int age, int price, int noise, int maker, int bears, int[] many, int[] weight) { }

    record Family(int youngest, int need, int village) { }

    record Term(int toy, int term, int n) { }

    record Recall(int maker, int from, int to, int day, int had, Map<Integer, Integer> told) { }

    /** where: 0 came back, 1 + f lent, 20 lost. */
    record Act(int toy, int day, int known, int where) { }

    record Return(int family, int fine, boolean forgiven, int late) { }

    static final class Toy {
        int kind;
        int batch;
        int[] has;
        int wear;
        int came;
        int lentOn;
        int due;
        boolean wash;
        boolean culled;
    }

    final List<Kind> kinds = new ArrayList<>();
    final List<Toy> toys = new ArrayList<>();
    final List<Family> families = new ArrayList<>();
    final List<Term> terms = new ArrayList<>();
    final List<Recall> recalls = new ArrayList<>();
    final List<Act> acts = new ArrayList<>();
    final List<Return> returns = new ArrayList<>();
    final List<Integer> begun = new ArrayList<>();
    final Map<Integer, TreeMap<Integer, Integer>> waiting = new HashMap<>();
    final int[] minutes = {10, 10, 10, 10, 10, 10};
    final int[] owed = new int[10];
    StringBuilder tape = new StringBuilder();
    PlainRules rules;
    int now;
    int bag;
    int telling;

    PlainHouse() {
        try {
            rules = new PlainRules("");
        } catch (PlainRules.Fault fault) {
            throw new IllegalStateException(fault);
        }
    }

    static boolean in(int x, int low, int high) {
        return low <= x && x <= high;
    }

    boolean noKind(int k) {
        return !in(k, 0, kinds.size() - 1);
    }

    boolean noToy(int t) {
        return !in(t, 0, toys.size() - 1);
    }

    boolean noFamily(int f) {
        return !in(f, 0, families.size() - 1);
    }

    int now(int day) {
        if (!in(day, now, 699)) {
            return 0;
        }
        now = day;
        return 1;
    }

    int kind(int age, int price, int noise, int maker, int bears) {
        if (!in(age, 0, 15) || !in(price, 1, 20000) || !in(noise, 0, 9) || !in(maker, 0, 5) || !in(bears, 1, 1000)
                || kinds.size() == 8) {
            return -1;
        }
        kinds.add(new Kind(age, price, noise, maker, bears, new int[6], new int[6]));
        waiting.put(kinds.size() - 1, new TreeMap<>());
        return kinds.size() - 1;
    }

    int pieces(int k, int sort, int many, int weight) {
        if (noKind(k) || !in(sort, 0, 5) || !in(many, 0, 6) || !in(weight, 1, 400)) {
            return 0;
        }
        for (Toy toy : toys) {
            if (toy.kind == k) {
                return 0;
            }
        }
        kinds.get(k).many[sort] = many;
        kinds.get(k).weight[sort] = weight;
        return 1;
    }

    int toy(int k, int batch) {
        if (noKind(k) || !in(batch, 0, 99) || toys.size() == 16) {
            return -1;
        }
        Toy toy = new Toy();
        toy.kind = k;
        toy.batch = batch;
        toy.has = kinds.get(k).many.clone();
        toy.came = now;
        toys.add(toy);
        return toys.size() - 1;
    }

    int family(int youngest, int need, int village) {
        if (!in(youngest, 0, 15) || !in(need, 0, 9) || !in(village, 0, 4) || families.size() == 10) {
            return -1;
        }
        families.add(new Family(youngest, need, village));
        return families.size() - 1;
    }

    int bag(int weight) {
        if (!in(weight, 0, 2000)) {
            return 0;
        }
        bag = weight;
        return 1;
    }

    int telling(int days) {
        if (!in(days, 0, 30)) {
            return 0;
        }
        telling = days;
        return 1;
    }

    int feed(int[] five) {
        if (tape.length() > 200) {
            return -1;
        }
        for (int one : five) {
            tape.append((char) (one >>> 24)).append((char) (one >> 16 & 255));
            tape.append((char) (one >> 8 & 255)).append((char) (one & 255));
        }
        return tape.length();
    }

    String takeTape() {
        String all = tape.toString();
        tape = new StringBuilder();
        return all;
    }

    int rules(int n) {
        if (!in(n, 1, 200) || n > tape.length()) {
            return -1;
        }
        try {
            rules = new PlainRules(takeTape().substring(0, n));
            return rules.size();
        } catch (PlainRules.Fault fault) {
            return fault.answer;
        }
    }

    // ---- where things are, by the acts

    Act lastAct(int t) {
        Act last = null;
        for (Act act : acts) {
            if (act.toy == t) {
                last = act;
            }
        }
        return last;
    }

    /** 0 in the house, 1 lent, 2 lost, 3 culled. */
    int place(int t) {
        Act last = lastAct(t);
        if (toys.get(t).culled) {
            return 3;
        }
        return last == null || last.where == 0 ? 0 : last.where == 20 ? 2 : 1;
    }

    int holder(int t) {
        return place(t) == 1 ? lastAct(t).where - 1 : -1;
    }

    int timesLent(int t) {
        int many = 0;
        for (Act act : acts) {
            many += act.toy == t && in(act.where, 1, 10) ? 1 : 0;
        }
        return many;
    }

    int heldBy(int f) {
        int many = 0;
        for (int t = 0; t < toys.size(); t++) {
            many += holder(t) == f ? 1 : 0;
        }
        return many;
    }

    int lacking(int t) {
        int lacking = 0;
        for (int p = 0; p < 6; p++) {
            lacking += kinds.get(toys.get(t).kind).many[p] - toys.get(t).has[p];
        }
        return lacking;
    }

    int weight(int t) {
        int weight = bag;
        for (int p = 0; p < 6; p++) {
            weight += kinds.get(toys.get(t).kind).weight[p] * toys.get(t).has[p];
        }
        return weight;
    }

    boolean covers(Recall recall, int t) {
        return kinds.get(toys.get(t).kind).maker == recall.maker && in(toys.get(t).batch, recall.from, recall.to);
    }

    boolean isRecalled(int t) {
        for (Recall recall : recalls) {
            if (covers(recall, t)) {
                return true;
            }
        }
        return false;
    }

    boolean worn(int t) {
        return toys.get(t).wear >= kinds.get(toys.get(t).kind).bears;
    }

    boolean termsBar(int t, int f) {
        for (Term term : terms) {
            Family family = families.get(f);
            boolean bars = switch (term.term) {
                case 0 -> family.village != term.n;
                case 1 -> f == term.n;
                case 2 -> now > term.n;
                default -> family.need < term.n;
            };
            if (term.toy == t && bars) {
                return true;
            }
        }
        return false;
    }

    int waitingFor(int k) {
        return waiting.get(k).size();
    }

    Map<Character, Integer> letters(int k, int t, int f, int late) {
        Map<Character, Integer> letters = new HashMap<>();
        letters.put('k', k);
        letters.put('a', kinds.get(k).age);
        letters.put('p', kinds.get(k).price);
        letters.put('z', kinds.get(k).noise);
        letters.put('w', t < 0 ? 0 : toys.get(t).wear);
        letters.put('m', t < 0 ? 0 : lacking(t));
        letters.put('t', t < 0 ? 0 : t);
        letters.put('n', t < 0 ? 0 : timesLent(t));
        letters.put('y', families.get(f).youngest);
        letters.put('e', families.get(f).need);
        letters.put('v', families.get(f).village);
        letters.put('h', heldBy(f));
        letters.put('d', now);
        letters.put('s', now % 365);
        letters.put('l', late);
        letters.put('q', now - waiting.get(k).getOrDefault(f, now));
        letters.put('c', waitingFor(k));
        return letters;
    }

    // ---- lending

    int not(int t, int f) {
        if (noToy(t) || noFamily(f)) {
            return -1;
        }
        Map<Character, Integer> letters = letters(toys.get(t).kind, t, f, 0);
        boolean[] is = {place(t) != 0, toys.get(t).wash, isRecalled(t), worn(t), termsBar(t, f),
            rules.holding('a', letters) < rules.all('a'), rules.holding('u', letters) > 0};
        for (int i = 0; i < is.length; i++) {
            if (is[i]) {
                return i + 1;
            }
        }
        return 0;
    }

    int lend(int t, int f) {
        if (not(t, f) != 0) {
            return -1;
        }
        Toy toy = toys.get(t);
        toy.due = now + rules.first('d', 21, 1, 200, letters(toy.kind, t, f, 0));
        toy.lentOn = now;
        waiting.get(toy.kind).remove(f);
        acts.add(new Act(t, now, now + telling, 1 + f));
        return toy.due;
    }

    int back(int t) {
        if (noToy(t) || place(t) != 1 || tape.length() < 6) {
            return -1;
        }
        Toy toy = toys.get(t);
        String told = takeTape();
        int missing = 0;
        for (int p = 0; p < 6; p++) {
            if (told.charAt(p) > toy.has[p]) {
                return -2;
            }
            missing += toy.has[p] - told.charAt(p);
        }
        for (int p = 0; p < 6; p++) {
            toy.has[p] = told.charAt(p);
        }
        toy.wear += now == toy.lentOn ? 1 : now - toy.lentOn;
        toy.came = now;
        int late = now > toy.due ? now - toy.due : 0;
        int f = holder(t);
        Map<Character, Integer> letters = letters(toy.kind, t, f, late);
        int fine = rules.first('f', 0, 0, 100000, letters);
        boolean forgiven = rules.holding('o', letters) > 0;
        int owes = missing * rules.first('p', 0, 0, 100000, letters) + (forgiven ? 0 : fine);
        toy.wash = rules.holding('w', letters) > 0;
        owed[f] += owes;
        returns.add(new Return(f, fine, forgiven, late));
        acts.add(new Act(t, now, now + telling, 0));
        return owes;
    }

    int lost(int t) {
        if (noToy(t) || place(t) != 1) {
            return -1;
        }
        int pieces = 0;
        for (int has : toys.get(t).has) {
            pieces += has;
        }
        int f = holder(t);
        int owes = pieces * rules.first('p', 0, 0, 100000, letters(toys.get(t).kind, t, f, 0));
        owed[f] += owes;
        acts.add(new Act(t, now, now + telling, 20));
        return owes;
    }

    int wash(int t) {
        if (noToy(t) || !toys.get(t).wash) {
            return 0;
        }
        toys.get(t).wash = false;
        return 1;
    }

    int toyIs(int t, int what) {
        if (noToy(t)) {
            return -1;
        }
        Toy toy = toys.get(t);
        return switch (what) {
            case 0 -> place(t);
            case 1 -> holder(t);
            case 2 -> place(t) == 1 ? toy.due : -1;
            case 3 -> toy.wear;
            case 4 -> timesLent(t);
            case 5 -> toy.wash ? 1 : 0;
            case 6 -> isRecalled(t) ? 1 : 0;
            case 7 -> lacking(t);
            case 8 -> weight(t);
            case 10, 11, 12, 13, 14, 15 -> toy.has[what - 10];
            default -> -1;
        };
    }

    int weigh(int t, int weight, int e, int what) {
        if (noToy(t) || !in(weight, 0, 200000) || !in(e, 0, 2000) || !(in(what, 0, 3) || in(what, 10, 15))) {
            return -1;
        }
        Toy toy = toys.get(t);
        List<int[]> ways = new ArrayList<>();
        addWays(toy, 0, new int[6], Math.abs(weight), weight(t), e, ways);
        if (ways.isEmpty()) {
            return -2;
        }
        int[] fewest = ways.get(0);
        int some = 0;
        int each = 63;
        for (int[] way : ways) {
            int lacks = 0;
            for (int p = 0; p < 6; p++) {
                lacks |= way[p] > 0 ? 1 << p : 0;
            }
            some |= lacks;
            each &= lacks;
            if (sum(way) < sum(fewest) || sum(way) == sum(fewest) && java.util.Arrays.compare(way, fewest) < 0) {
                fewest = way;
            }
        }
        return what == 0 ? ways.size() : what == 1 ? 63 - some : what == 2 ? each : what == 3 ? sum(fewest)
            : fewest[what - 10];
    }

    private void addWays(Toy toy, int p, int[] way, int weight, int full, int e, List<int[]> ways) {
        if (p == 6) {
            int is = full;
            for (int i = 0; i < 6; i++) {
                is -= way[i] * kinds.get(toy.kind).weight[i];
            }
            if (Math.abs(is - weight) <= e) {
                ways.add(way.clone());
            }
            return;
        }
        for (way[p] = toy.has[p]; way[p] >= 0; way[p]--) {
            addWays(toy, p + 1, way, weight, full, e, ways);
        }
        way[p] = 0;
    }

    static int sum(int[] row) {
        int sum = 0;
        for (int one : row) {
            sum += one;
        }
        return sum;
    }

    int whole(int k, int what) {
        if (noKind(k) || !in(what, 0, 2)) {
            return -1;
        }
        int there = 0;
        int[] together = new int[6];
        for (int t = 0; t < toys.size(); t++) {
            if (toys.get(t).kind == k && place(t) == 0 && !isRecalled(t)) {
                there |= 1 << t;
                for (int p = 0; p < 6; p++) {
                    together[p] += toys.get(t).has[p];
                }
            }
        }
        int many = 0;
        boolean enough = true;
        while (enough && many < Integer.bitCount(there)) {
            for (int p = 0; p < 6; p++) {
                enough &= kinds.get(k).many[p] * (many + 1) <= together[p];
            }
            many += enough ? 1 : 0;
        }
        int best = -1;
        int moved = 0;
        for (int set = 0; set < 1 << toys.size(); set++) {
            if ((set & ~there) == 0 && Integer.bitCount(set) == many) {
                int lacks = 0;
                for (int t = 0; t < toys.size(); t++) {
                    lacks += (set >> t & 1) * lacking(t);
                }
                if (best < 0 || lacks < moved) {
                    best = set;
                    moved = lacks;
                }
            }
        }
        return what == 0 ? many : what == 1 ? moved : best;
    }

    // ---- waiting

    int waits(int f, int k) {
        if (noFamily(f) || noKind(k) || waiting.get(k).containsKey(f)) {
            return 0;
        }
        waiting.get(k).put(f, now);
        begun.add(now);
        return 1;
    }

    int leaves(int f, int k) {
        return noFamily(f) || noKind(k) || waiting.get(k).remove(f) == null ? 0 : 1;
    }

    int next(int k, int what) {
        if (noKind(k) || !in(what, 0, 2)) {
            return -1000000;
        }
        if (what == 2) {
            return waitingFor(k);
        }
        long best = Long.MIN_VALUE;
        for (Map.Entry<Integer, Integer> one : waiting.get(k).entrySet()) {
            long turn = rules.first('n', 0, -100000, 100000, letters(k, -1, one.getKey(), 0));
            best = Math.max(best, (turn * 1000 + now - one.getValue()) * 100 + 50 - one.getKey());
        }
        if (best == Long.MIN_VALUE) {
            return -1000000;
        }
        return what == 0 ? (int) (50 - Math.floorMod(best, 100L)) : (int) Math.floorDiv(best, 100000L);
    }

    int buying(int coin, int weeks, int what) {
        if (!in(coin, 0, 60000) || !in(weeks, 1, 99) || !in(what, -1, 8) || in(what, 0, 7) && noKind(what)) {
            return -1;
        }
        int[] best = null;
        int bestServed = 0;
        int bestCost = 0;
        int size = kinds.size();
        int[] there = usable();
        for (int code = 0; code < 1 << 2 * size; code++) {
            int[] row = new int[size];
            int cost = 0;
            for (int k = 0; k < size; k++) {
                row[k] = code >> 2 * (size - 1 - k) & 3;
                cost += row[k] * kinds.get(k).price;
            }
            if (cost <= coin) {
                int served = served(there, row, weeks);
                if (best == null || served > bestServed || served == bestServed && cost < bestCost) {
                    best = row;
                    bestServed = served;
                    bestCost = cost;
                }
            }
        }
        return what == -1 ? bestServed - served(there, new int[size], weeks) : what == 8 ? bestCost : best[what];
    }

    private int[] usable() {
        int[] there = new int[kinds.size()];
        for (int t = 0; t < toys.size(); t++) {
            there[toys.get(t).kind] += place(t) < 2 && !isRecalled(t) ? 1 : 0;
        }
        return there;
    }

    private int served(int[] there, int[] row, int weeks) {
        int served = 0;
        for (int k = 0; k < row.length; k++) {
            served += Math.min(waitingFor(k), (there[k] + row[k]) * weeks / 3);
        }
        return served;
    }

    int van(int village, int n, int what) {
        if (!in(village, 0, 4) || !in(n, 1, 6) || !in(what, 0, 1)) {
            return -1;
        }
        int[] takers = new int[toys.size()];
        for (int t = 0; t < toys.size(); t++) {
            for (int f = 0; f < families.size(); f++) {
                boolean asks = families.get(f).village == village && waiting.get(toys.get(t).kind).containsKey(f);
                takers[t] |= asks && not(t, f) == 0 ? 1 << f : 0;
            }
        }
        int best = 0;
        int most = 0;
        for (int set = 0; set < 1 << toys.size(); set++) {
            if (Integer.bitCount(set) <= n) {
                int paired = paired(set, takers);
                if (paired > most || paired == most && Integer.bitCount(set) < Integer.bitCount(best)) {
                    best = set;
                    most = paired;
                }
            }
        }
        return what == 0 ? best : most;
    }

    /** By Hall: some toys of the set have too few takers between them, and so many stay without one. */
    private static int paired(int set, int[] takers) {
        int least = Integer.bitCount(set);
        for (int some = set; some > 0; some = some - 1 & set) {
            int reached = 0;
            for (int t = 0; t < takers.length; t++) {
                reached |= (some >> t & 1) == 1 ? takers[t] : 0;
            }
            least = Math.min(least, Integer.bitCount(set & ~some) + Integer.bitCount(reached));
        }
        return least;
    }

    int minutes(int sort, int n) {
        if (!in(sort, 0, 5) || !in(n, 0, 600)) {
            return 0;
        }
        minutes[sort] = n;
        return 1;
    }

    int mending(int all, int what) {
        if (!in(all, 0, 6000) || !in(what, 0, 2)) {
            return -1;
        }
        int[] takes = new int[toys.size()];
        int[] worth = new int[toys.size()];
        int may = 0;
        for (int t = 0; t < toys.size(); t++) {
            for (int p = 0; p < 6; p++) {
                takes[t] += minutes[p] * (kinds.get(toys.get(t).kind).many[p] - toys.get(t).has[p]);
            }
            worth[t] = 1 + waitingFor(toys.get(t).kind);
            may |= place(t) == 0 && lacking(t) > 0 ? 1 << t : 0;
        }
        int[] best = {0, 0, 0};
        for (int set = 0; set < 1 << toys.size(); set++) {
            int time = 0;
            int sum = 0;
            for (int t = 0; t < toys.size(); t++) {
                time += (set >> t & 1) * takes[t];
                sum += (set >> t & 1) * worth[t];
            }
            boolean better = sum > best[2] || sum == best[2] && time < best[1];
            if ((set & ~may) == 0 && time <= all && better) {
                best = new int[] {set, time, sum};
            }
        }
        return best[what];
    }

    int mend(int t) {
        if (noToy(t) || place(t) != 0 || lacking(t) == 0) {
            return -1;
        }
        int got = lacking(t);
        toys.get(t).has = kinds.get(toys.get(t).kind).many.clone();
        return got;
    }

    int rota(int c, int t) {
        if (noToy(t) || !in(c, 1, 9)) {
            return -1;
        }
        List<Integer> row = new ArrayList<>();
        for (int i = 0; i < toys.size(); i++) {
            if (place(i) == 0 && toys.get(i).wash) {
                row.add(i);
            }
        }
        row.sort((x, y) -> waitingFor(toys.get(y).kind) - waitingFor(toys.get(x).kind));
        return row.contains(t) ? now + row.indexOf(t) / c : -1;
    }

    // ---- recalls, gifts, fines

    int holders(Recall recall) {
        int set = 0;
        for (int t = 0; t < toys.size(); t++) {
            set |= place(t) == 1 && covers(recall, t) ? 1 << holder(t) : 0;
        }
        return set;
    }

    int recall(int maker, int from, int to) {
        if (!in(maker, 0, 5) || !in(from, 0, 99) || !in(to, 0, 99) || from > to || recalls.size() == 10) {
            return -1;
        }
        int had = holders(new Recall(maker, from, to, now, 0, null));
        recalls.add(new Recall(maker, from, to, now, had, new HashMap<>()));
        return recalls.size() - 1;
    }

    int told(int r, int f) {
        if (!in(r, 0, recalls.size() - 1) || noFamily(f)) {
            return 0;
        }
        return recalls.get(r).told.putIfAbsent(f, now) == null ? 1 : 0;
    }

    int recalled(int r, int what) {
        if (!in(r, 0, recalls.size() - 1) || !in(what, 0, 3)) {
            return -1;
        }
        Recall recall = recalls.get(r);
        int toySet = 0;
        for (int t = 0; t < toys.size(); t++) {
            toySet |= covers(recall, t) ? 1 << t : 0;
        }
        int inTime = 0;
        int open = 0;
        for (int f = 0; f < 10; f++) {
            boolean soon = recall.told.getOrDefault(f, 9999) - recall.day <= 1;
            inTime += (recall.had >> f & 1) == 1 && soon ? 1 : 0;
            open |= (holders(recall) >> f & 1) == 1 && !recall.told.containsKey(f) ? 1 << f : 0;
        }
        return new int[] {toySet, recall.had, inTime, open}[what];
    }

    int gift(int t, int term, int n) {
        boolean right = switch (term) {
            case 0 -> in(n, 0, 4);
            case 1 -> !noFamily(n);
            case 2 -> in(n, 0, 699);
            case 3 -> in(n, 0, 9);
            default -> false;
        };
        if (noToy(t) || !right || terms.size() == 20) {
            return 0;
        }
        terms.add(new Term(t, term, n));
        return 1;
    }

    int owes(int f) {
        return noFamily(f) ? -1 : owed[f];
    }

    int pays(int f, int pence) {
        if (noFamily(f) || !in(pence, 1, owed[f])) {
            return -1;
        }
        owed[f] -= pence;
        return owed[f];
    }

    int forgiving(int what) {
        if (!in(what, 0, 3)) {
            return -1;
        }
        int[] counts = new int[4];
        for (int i = 0; i < returns.size(); i++) {
            Return one = returns.get(i);
            int j = i + 1;
            while (j < returns.size() && returns.get(j).family != one.family) {
                j++;
            }
            if (one.fine > 0 && j < returns.size()) {
                counts[one.forgiven ? 0 : 2]++;
                counts[one.forgiven ? 1 : 3] += returns.get(j).late > 0 ? 1 : 0;
            }
        }
        return counts[what];
    }

    int peak(int what) {
        if (!in(what, 0, 1)) {
            return -1;
        }
        int best = 0;
        int most = 0;
        for (int week = 0; week <= 52; week++) {
            int many = 0;
            for (int day : begun) {
                int is = day % 365 / 7;
                many += is == week || is == (week + 1) % 53 || is == (week + 2) % 53 ? 1 : 0;
            }
            if (many > most) {
                best = week;
                most = many;
            }
        }
        return what == 0 ? best : most;
    }

    int unwanted(int d) {
        if (!in(d, 1, 700)) {
            return -1;
        }
        int set = 0;
        for (int t = 0; t < toys.size(); t++) {
            set |= why(t, d) > 0 ? 1 << t : 0;
        }
        return set;
    }

    int why(int t, int d) {
        if (noToy(t) || !in(d, 1, 700)) {
            return -1;
        }
        Toy toy = toys.get(t);
        if (place(t) != 0 || toy.came > now - d || waitingFor(toy.kind) > 0) {
            return 0;
        }
        boolean tooOld = !families.isEmpty();
        boolean barred = !families.isEmpty();
        for (int f = 0; f < families.size(); f++) {
            tooOld &= kinds.get(toy.kind).age > families.get(f).youngest;
            barred &= termsBar(t, f);
        }
        boolean[] is = {isRecalled(t), toy.wash, lacking(t) > 0, worn(t), kinds.get(toy.kind).noise > 6, tooOld, barred};
        int why = 1;
        while (why < 8 && !is[why - 1]) {
            why++;
        }
        return why;
    }

    int cull(int t) {
        if (noToy(t) || place(t) != 0) {
            return 0;
        }
        toys.get(t).culled = true;
        return 1;
    }

    int where(int t, int day, int known) {
        if (noToy(t) || !in(day, 0, now) || !in(known, day, 699)) {
            return -1;
        }
        int where = 0;
        for (Act act : acts) {
            if (act.toy == t && act.day <= day && act.known <= known) {
                where = act.where;
            }
        }
        return where;
    }

    int check(int t, int n) {
        if (noToy(t) || n < 0 || 8L * n > tape.length()) {
            return -2;
        }
        String bytes = takeTape();
        List<Integer> due = new ArrayList<>();
        for (int p = 0; p < 6; p++) {
            if (kinds.get(toys.get(t).kind).many[p] > 0) {
                due.add(p);
                due.add(toys.get(t).has[p]);
            }
        }
        for (int i = 0; i < 2 * n; i++) {
            int number = 0;
            for (int j = 4 * i; j < 4 * i + 4; j++) {
                number = number * 256 + bytes.charAt(j);
            }
            if (i >= due.size() || due.get(i) != number) {
                return i;
            }
        }
        return due.size() > 2 * n ? 2 * n : -1;
    }

    int count(int what) {
        if (in(what, 10, 19)) {
            return noKind(what - 10) ? -1 : waitingFor(what - 10);
        }
        if (what >= 20) {
            return noFamily(what - 20) ? -1 : heldBy(what - 20);
        }
        return switch (what) {
            case 0 -> now;
            case 1 -> kinds.size();
            case 2 -> toys.size();
            case 3 -> families.size();
            case 4 -> rules.size();
            case 5 -> tape.length();
            case 6 -> recalls.size();
            case 7 -> terms.size();
            case 8 -> acts.size();
            default -> -1;
        };
    }
}
