import java.math.BigInteger;
import java.util.ArrayList;
import java.util.Arrays;
import java.util.HashMap;
import java.util.HashSet;
import java.util.List;
import java.util.Map;
import java.util.Set;
import java.util.TreeSet;

/**
 * The document once more, by trying everything out: written apart from FiddlerDebts,
 * so that what one of them gets wrong shows.
 */
final class SlowVillage {
    static final int NONE = -1;
    static final int NOTHING = -1000000000;
    /** As many choices of HALVES are tried out one by one; where there are more, only the best of each set of OWERS. */
    private static final int MOST_TRIED = 100_000;

    record Debt(int ower, int creditor, int tune, int halves, int since) {
        Debt with(int many) {
            return new Debt(ower, creditor, tune, many, since);
        }
    }

    record Pair(int a, int b) {
    }

    static final class State {
        List<Integer> tunes = new ArrayList<>();
        List<Debt> debts = new ArrayList<>();
        int evening = 0;
        List<SlowLaw> laws = new ArrayList<>();
        int forced = NONE;
        List<Pair> weddings = new ArrayList<>();
        List<Pair> dances = new ArrayList<>();
        List<Pair> ahead = new ArrayList<>();

        State copy() {
            State c = new State();
            c.tunes.addAll(tunes);
            c.debts.addAll(debts);
            c.evening = evening;
            c.laws.addAll(laws);
            c.forced = forced;
            c.weddings.addAll(weddings);
            c.dances.addAll(dances);
            c.ahead.addAll(ahead);
            return c;
        }
    }

    State s = new State();
    State[] images = new State[2];
    List<Integer> tape = new ArrayList<>();
    int sung = 0;
    int fault = NONE;
    int status = 0;
    int[] refused = new int[7];
    int[][] evenings = null;

    private int no(int why) {
        status = why;
        refused[-why]++;
        return why;
    }

    private int yes(int answer) {
        status = 0;
        return answer;
    }

    private static boolean in(int n, int low, int high) {
        return low <= n && n <= high;
    }

    private boolean isTune(int t) {
        return in(t, 0, s.tunes.size() - 1);
    }

    private boolean isDebt(int d) {
        return in(d, 0, s.debts.size() - 1);
    }

    // What the LAW says.

    private BigInteger word(Debt d, String w) {
        long v = switch (w) {
            case "ower" -> d.ower();
            case "creditor" -> d.creditor();
            case "tune" -> d.tune();
            case "length" -> s.tunes.get(d.tune());
            case "halves" -> d.halves();
            case "age" -> s.evening - d.since();
            case "debts" -> s.debts.stream().filter(o -> o.ower() == d.ower()).count();
            default -> throw new IllegalStateException(w);
        };
        return BigInteger.valueOf(v);
    }

    private SlowLaw.Told told(Debt d) {
        SlowLaw.Told none = new SlowLaw.Told(s.tunes.get(d.tune()), false, false);
        return s.forced == NONE ? none : s.laws.get(s.forced).ask(none, w -> word(d, w));
    }

    private int worth(Debt d) {
        return told(d).worth();
    }

    private boolean isVoid(Debt d) {
        return told(d).isVoid();
    }

    private boolean isBarred(Debt d) {
        return told(d).isBarred();
    }

    // The face.

    int tune(int length) {
        if (!in(length, 1, 30)) {
            return no(-1);
        }
        if (s.tunes.size() == 6) {
            return no(-5);
        }
        s.tunes.add(length);
        return yes(s.tunes.size() - 1);
    }

    int length(int tune) {
        return isTune(tune) ? s.tunes.get(tune) : NONE;
    }

    int owe(int ower, int creditor, int tune, int halves) {
        if (!in(ower, 0, 7) || !in(creditor, 0, 7) || ower == creditor || !in(halves, 1, 9)) {
            return no(-1);
        }
        if (!isTune(tune)) {
            return no(-2);
        }
        if (s.debts.size() == 16) {
            return no(-5);
        }
        s.debts.add(new Debt(ower, creditor, tune, halves, s.evening));
        return yes(s.debts.size() - 1);
    }

    int of(int debt, int what) {
        if (!isDebt(debt)) {
            return NONE;
        }
        Debt d = s.debts.get(debt);
        return switch (what) {
            case 0 -> d.ower();
            case 1 -> d.creditor();
            case 2 -> d.tune();
            case 3 -> d.halves();
            case 4 -> d.since();
            case 5 -> worth(d);
            case 6 -> isVoid(d) ? 1 : 0;
            case 7 -> isBarred(d) ? 1 : 0;
            default -> NONE;
        };
    }

    private void dropEmpty() {
        s.debts.removeIf(d -> d.halves() == 0);
    }

    int pay(int debt, int halves) {
        if (!in(halves, 1, 9)) {
            return no(-1);
        }
        if (!isDebt(debt)) {
            return no(-2);
        }
        Debt d = s.debts.get(debt);
        if (d.halves() < halves) {
            return no(-1);
        }
        s.debts.set(debt, d.with(d.halves() - halves));
        dropEmpty();
        return yes(d.halves() - halves);
    }

    int funeral(int dancer) {
        if (!in(dancer, 0, 7)) {
            return no(-1);
        }
        int before = count(2);
        s.debts.removeIf(d -> d.ower() == dancer || d.creditor() == dancer);
        return yes(before - count(2));
    }

    int terms(int what, int value) {
        if (what != 0 || !in(value, 0, 999)) {
            return no(-1);
        }
        int was = s.evening;
        s.evening = value;
        return yes(was);
    }

    int feed(int a, int b, int c, int d, int e) {
        if (tape.size() > 380) {
            return NONE;
        }
        for (int n : new int[] {a, b, c, d, e}) {
            tape.add(n >>> 24);
            tape.add(n >>> 16 & 255);
            tape.add(n >>> 8 & 255);
            tape.add(n & 255);
        }
        return tape.size();
    }

    int end(int n) {
        if (n < 0 || n > tape.size()) {
            return NONE;
        }
        tape = new ArrayList<>(tape.subList(0, n));
        return n;
    }

    int row() {
        if (tape.isEmpty()) {
            return no(-6);
        }
        int came = 0;
        sung = 0;
        while (!tape.isEmpty()) {
            List<Integer> four = tape.subList(0, Math.min(4, tape.size()));
            boolean fits = four.size() == 4 && s.debts.size() < 16 && four.get(0) < 8 && four.get(1) < 8
                && !four.get(0).equals(four.get(1)) && isTune(four.get(2)) && in(four.get(3), 1, 9);
            if (fits) {
                s.debts.add(new Debt(four.get(0), four.get(1), four.get(2), four.get(3), s.evening));
                came++;
            } else {
                sung++;
            }
            tape = new ArrayList<>(tape.subList(four.size(), tape.size()));
        }
        return yes(came);
    }

    int sung() {
        return sung;
    }

    int law() {
        List<Integer> text = tape;
        tape = new ArrayList<>();
        if (s.laws.size() == 6) {
            return no(-5);
        }
        SlowLaw law = new SlowLaw(text);
        fault = law.fault;
        if (fault != NONE) {
            return no(-6);
        }
        s.laws.add(law);
        return yes(s.laws.size() - 1);
    }

    int fault() {
        return fault;
    }

    int force(int law) {
        if (law != NONE && !in(law, 0, s.laws.size() - 1)) {
            return no(-2);
        }
        int was = s.forced;
        s.forced = law;
        return yes(was);
    }

    int balance(int dancer) {
        if (!in(dancer, 0, 7)) {
            return NOTHING;
        }
        int sum = 0;
        for (Debt d : s.debts) {
            if (!isVoid(d)) {
                sum += d.creditor() == dancer ? d.halves() * worth(d) : 0;
                sum -= d.ower() == dancer ? d.halves() * worth(d) : 0;
            }
        }
        return sum;
    }

    int richest() {
        int best = 7;
        for (int d = 6; d >= 0; d--) {
            if (balance(d) >= balance(best)) {
                best = d;
            }
        }
        return best;
    }

    private List<Debt> owedNow(int tune) {
        return s.debts.stream().filter(d -> d.tune() == tune && !isVoid(d)).toList();
    }

    int net(int dancer, int tune) {
        if (!in(dancer, 0, 7) || !isTune(tune)) {
            return NOTHING;
        }
        int sum = 0;
        for (Debt d : owedNow(tune)) {
            sum += d.creditor() == dancer ? d.halves() : d.ower() == dancer ? -d.halves() : 0;
        }
        return sum;
    }

    int left(int tune, int what) {
        if (!isTune(tune) || !in(what, 0, 2)) {
            return NONE;
        }
        int[] nets = new int[8];
        int absolute = 0;
        for (int d = 0; d < 8; d++) {
            nets[d] = net(d, tune);
            absolute += Math.abs(nets[d]);
        }
        if (what == 0) {
            return owedNow(tune).stream().mapToInt(Debt::halves).sum();
        }
        return what == 1 ? absolute / 2 : payments(nets, 0);
    }

    /** The first who is not even settles with one of the other sign: tried with each. */
    private static int payments(int[] nets, int from) {
        int at = from;
        while (at < 8 && nets[at] == 0) {
            at++;
        }
        if (at == 8) {
            return 0;
        }
        int least = 99;
        for (int other = at + 1; other < 8; other++) {
            if (nets[at] < 0 != nets[other] < 0 && nets[other] != 0) {
                int[] then = nets.clone();
                then[other] += then[at];
                then[at] = 0;
                least = Math.min(least, 1 + payments(then, at + 1));
            }
        }
        return least;
    }

    /** All rings that are begun with their lowest dancer. */
    private void rings(int tune, List<Integer> soFar, List<List<Integer>> into) {
        int last = soFar.get(soFar.size() - 1);
        for (int next = 0; next < 8; next++) {
            int to = next;
            if (owedNow(tune).stream().noneMatch(d -> d.ower() == last && d.creditor() == to)) {
                continue;
            }
            if (next == soFar.get(0)) {
                into.add(new ArrayList<>(soFar));
            } else if (next > soFar.get(0) && !soFar.contains(next)) {
                soFar.add(next);
                rings(tune, soFar, into);
                soFar.remove(soFar.size() - 1);
            }
        }
    }

    private List<Integer> theRing(int tune) {
        List<List<Integer>> all = new ArrayList<>();
        for (int first = 0; first < 8; first++) {
            rings(tune, new ArrayList<>(List.of(first)), all);
        }
        List<Integer> best = null;
        for (List<Integer> ring : all) {
            if (best == null || compareRings(ring, best) < 0) {
                best = ring;
            }
        }
        return best;
    }

    private static int compareRings(List<Integer> a, List<Integer> b) {
        if (a.size() != b.size()) {
            return a.size() - b.size();
        }
        int bitsA = a.stream().mapToInt(d -> 1 << d).sum();
        int bitsB = b.stream().mapToInt(d -> 1 << d).sum();
        return bitsA != bitsB ? bitsA - bitsB : a.toString().compareTo(b.toString());
    }

    int ring(int tune, int i) {
        List<Integer> ring = isTune(tune) ? theRing(tune) : null;
        if (ring == null) {
            return NONE;
        }
        return i == NONE ? ring.size() : in(i, 0, ring.size() - 1) ? ring.get(i) : NONE;
    }

    int cancel(int tune) {
        if (!isTune(tune)) {
            return no(-2);
        }
        List<Integer> ring = theRing(tune);
        if (ring == null) {
            return no(-3);
        }
        // One half of each two goes at a time, as long as each two have one.
        List<Boolean> counts = s.debts.stream().map(d -> d.tune() == tune && !isVoid(d)).toList();
        int rounds = 0;
        while (true) {
            List<Integer> lowest = new ArrayList<>();
            for (int i = 0; i < ring.size(); i++) {
                int from = ring.get(i);
                int to = ring.get((i + 1) % ring.size());
                for (int d = 0; d < s.debts.size(); d++) {
                    Debt debt = s.debts.get(d);
                    if (counts.get(d) && debt.ower() == from && debt.creditor() == to && debt.halves() > 0) {
                        lowest.add(d);
                        break;
                    }
                }
            }
            if (lowest.size() < ring.size()) {
                break;
            }
            for (int d : lowest) {
                s.debts.set(d, s.debts.get(d).with(s.debts.get(d).halves() - 1));
            }
            rounds++;
        }
        dropEmpty();
        return yes(rounds);
    }

    record Feast(int worth, int owers, int minutes, int[] halves) {
        int compare(Feast o) {
            if (worth != o.worth) {
                return o.worth - worth;
            }
            if (Integer.bitCount(owers) != Integer.bitCount(o.owers)) {
                return Integer.bitCount(owers) - Integer.bitCount(o.owers);
            }
            if (owers != o.owers) {
                return owers - o.owers;
            }
            return minutes != o.minutes ? minutes - o.minutes : Arrays.compare(halves, o.halves);
        }
    }

    private Feast bestFeast;

    private Feast feast(int host, int minutes, int barrels) {
        List<Integer> playable = new ArrayList<>();
        long choices = 1;
        for (int d = 0; d < s.debts.size(); d++) {
            Debt debt = s.debts.get(d);
            if (debt.creditor() == host && !isVoid(debt) && !isBarred(debt)) {
                playable.add(d);
                choices *= debt.halves() + 1;
            }
        }
        int[] worths = s.debts.stream().mapToInt(this::worth).toArray();
        bestFeast = null;
        if (choices > MOST_TRIED) {
            tryOwers(playable, worths, minutes, barrels);
        } else {
            tryFeasts(playable, 0, new int[s.debts.size()], worths, minutes, barrels);
        }
        return bestFeast;
    }

    private void tryOwers(List<Integer> playable, int[] worths, int minutes, int barrels) {
        for (int set = 0; set < 256; set++) {
            if (Integer.bitCount(set) <= barrels) {
                int owers = set;
                List<Integer> theirs = playable.stream().filter(d -> (owers >> s.debts.get(d).ower() & 1) != 0).toList();
                keepBetter(feastOf(theirs, bestHalves(theirs, worths, minutes), worths));
            }
        }
    }

    /** Within the fewest minutes in which as much worth fits, each debt in turn plays as few as still let it be as much. */
    private int[] bestHalves(List<Integer> theirs, int[] worths, int minutes) {
        int[][] most = new int[theirs.size() + 1][minutes + 1];
        for (int i = theirs.size() - 1; i >= 0; i--) {
            Debt debt = s.debts.get(theirs.get(i));
            for (int m = 0; m <= minutes; m++) {
                for (int h = 0; h <= debt.halves() && h * s.tunes.get(debt.tune()) <= m; h++) {
                    int rest = most[i + 1][m - h * s.tunes.get(debt.tune())];
                    most[i][m] = Math.max(most[i][m], h * worths[theirs.get(i)] + rest);
                }
            }
        }
        int left = 0;
        while (most[0][left] < most[0][minutes]) {
            left++;
        }
        int[] halves = new int[s.debts.size()];
        for (int i = 0; i < theirs.size(); i++) {
            int d = theirs.get(i);
            int length = s.tunes.get(s.debts.get(d).tune());
            while (halves[d] * worths[d] + most[i + 1][left - halves[d] * length] < most[i][left]) {
                halves[d]++;
            }
            left -= halves[d] * length;
        }
        return halves;
    }

    private void tryFeasts(List<Integer> playable, int at, int[] halves, int[] worths, int minutes, int barrels) {
        if (at < playable.size()) {
            int d = playable.get(at);
            for (int h = 0; h <= s.debts.get(d).halves(); h++) {
                halves[d] = h;
                tryFeasts(playable, at + 1, halves, worths, minutes, barrels);
            }
            halves[d] = 0;
            return;
        }
        Feast feast = feastOf(playable, halves, worths);
        if (feast.minutes <= minutes && Integer.bitCount(feast.owers) <= barrels) {
            keepBetter(feast);
        }
    }

    private Feast feastOf(List<Integer> playable, int[] halves, int[] worths) {
        int worth = 0;
        int owers = 0;
        int taken = 0;
        for (int d : playable) {
            worth += halves[d] * worths[d];
            taken += halves[d] * s.tunes.get(s.debts.get(d).tune());
            owers |= halves[d] > 0 ? 1 << s.debts.get(d).ower() : 0;
        }
        return new Feast(worth, owers, taken, halves.clone());
    }

    private void keepBetter(Feast feast) {
        if (bestFeast == null || feast.compare(bestFeast) < 0) {
            bestFeast = feast;
        }
    }

    private static boolean isFeast(int host, int minutes, int barrels) {
        return in(host, 0, 7) && in(minutes, 0, 240) && in(barrels, 0, 8);
    }

    int best(int host, int minutes, int barrels, int what) {
        if (!isFeast(host, minutes, barrels) || !in(what, 0, 2 + s.debts.size())) {
            return NONE;
        }
        Feast feast = feast(host, minutes, barrels);
        return switch (what) {
            case 0 -> feast.worth;
            case 1 -> feast.owers;
            case 2 -> feast.minutes;
            default -> feast.halves[what - 3];
        };
    }

    int play(int host, int minutes, int barrels) {
        if (!isFeast(host, minutes, barrels)) {
            return no(-1);
        }
        Feast feast = feast(host, minutes, barrels);
        for (int d = 0; d < s.debts.size(); d++) {
            s.debts.set(d, s.debts.get(d).with(s.debts.get(d).halves() - feast.halves[d]));
        }
        dropEmpty();
        return yes(feast.worth);
    }

    int bands(int host, int what) {
        if (!in(host, 0, 7) || !in(what, 0, 1)) {
            return NONE;
        }
        int theirs = 0;
        int[] takes = new int[s.debts.size()];
        for (int d = 0; d < takes.length; d++) {
            Debt debt = s.debts.get(d);
            if (debt.creditor() == host && !isVoid(debt)) {
                theirs |= 1 << d;
                takes[d] = debt.halves() * s.tunes.get(debt.tune());
            }
        }
        int best = Integer.MAX_VALUE;
        int first = NONE;
        for (int set = 0; set < 1 << takes.length; set++) {
            if ((set & ~theirs) != 0) {
                continue;
            }
            int[] bands = new int[2];
            for (int d = 0; d < takes.length; d++) {
                bands[set >> d & 1] += takes[d];
            }
            if (Math.max(bands[0], bands[1]) < best) {
                best = Math.max(bands[0], bands[1]);
                first = set;
            }
        }
        return what == 0 ? best : first;
    }

    int wedding(int host, int minutes) {
        if (!isFeast(host, minutes, 0)) {
            return no(-1);
        }
        if (s.weddings.size() == 8) {
            return no(-5);
        }
        s.weddings.add(new Pair(host, minutes));
        return yes(s.weddings.size());
    }

    int divorce() {
        int were = s.weddings.size();
        s.weddings.clear();
        return were;
    }

    int free(int dancer) {
        if (!in(dancer, 0, 7)) {
            return NONE;
        }
        List<Debt> his = new ArrayList<>(s.debts.stream().filter(d -> d.ower() == dancer && !isVoid(d)).toList());
        if (his.isEmpty()) {
            return NONE;
        }
        // He may not play a barred one, so it stays, whatever weddings come.
        if (his.stream().anyMatch(this::isBarred)) {
            return 100;
        }
        for (int w = 0; w < s.weddings.size(); w++) {
            int minutes = s.weddings.get(w).b();
            for (int i = 0; i < his.size(); i++) {
                Debt d = his.get(i);
                while (d.creditor() == s.weddings.get(w).a() && d.halves() > 0 && s.tunes.get(d.tune()) <= minutes) {
                    minutes -= s.tunes.get(d.tune());
                    d = d.with(d.halves() - 1);
                }
                his.set(i, d);
            }
            if (his.stream().allMatch(d -> d.halves() == 0)) {
                return w;
            }
        }
        return 100;
    }

    int dance(int dancer, int tune) {
        if (!in(dancer, 0, 7)) {
            return no(-1);
        }
        if (!isTune(tune)) {
            return no(-2);
        }
        if (s.dances.size() == 10) {
            return no(-5);
        }
        s.dances.add(new Pair(dancer, tune));
        return yes(s.dances.size() - 1);
    }

    int ahead(int first, int later) {
        if (first == later) {
            return no(-1);
        }
        int most = s.dances.size() - 1;
        if (!in(first, 0, most) || !in(later, 0, most)) {
            return no(-2);
        }
        if (s.ahead.size() == 12) {
            return no(-5);
        }
        s.ahead.add(new Pair(first, later));
        return yes(s.ahead.size());
    }

    int forget() {
        int were = s.dances.size();
        s.dances.clear();
        s.ahead.clear();
        return were;
    }

    private Set<Integer> behind(int dance) {
        Set<Integer> seen = new HashSet<>();
        List<Integer> open = new ArrayList<>(List.of(dance));
        while (!open.isEmpty()) {
            int at = open.remove(0);
            for (Pair p : s.ahead) {
                if (p.a() == at && seen.add(p.b())) {
                    open.add(p.b());
                }
            }
        }
        return seen;
    }

    /** How many orders of the dances end with one of each dancer; with none at all, in the ninth place. */
    private int[] ends(int tune) {
        List<Integer> dances = new ArrayList<>();
        for (int d = 0; d < s.dances.size(); d++) {
            if (s.dances.get(d).b() == tune) {
                dances.add(d);
            }
        }
        int[] ends = new int[9];
        if (dances.stream().anyMatch(d -> behind(d).contains(d))) {
            return ends;
        }
        List<Set<Integer>> behind = new ArrayList<>();
        for (int d = 0; d < s.dances.size(); d++) {
            behind.add(behind(d));
        }
        if (dances.isEmpty()) {
            ends[8] = 1;
        }
        for (int last : dances) {
            if (dances.stream().noneMatch(d -> behind.get(last).contains(d))) {
                Set<Integer> others = new TreeSet<>(dances);
                others.remove(last);
                ends[s.dances.get(last).a()] += ordersOf(others, behind, new HashMap<>());
            }
        }
        return ends;
    }

    /** Takes one after another that none of those still open must stand ahead of; what it found it remembers. */
    private static int ordersOf(Set<Integer> open, List<Set<Integer>> behind, Map<Set<Integer>, Integer> found) {
        if (open.isEmpty()) {
            return 1;
        }
        Integer before = found.get(open);
        if (before != null) {
            return before;
        }
        int sum = 0;
        for (int next : open) {
            if (open.stream().noneMatch(o -> behind.get(o).contains(next))) {
                Set<Integer> rest = new TreeSet<>(open);
                rest.remove(next);
                sum += ordersOf(rest, behind, found);
            }
        }
        found.put(open, sum);
        return sum;
    }

    int orders(int tune, int dancer) {
        if (!isTune(tune) || !in(dancer, NONE, 7)) {
            return NONE;
        }
        int[] ends = ends(tune);
        return dancer == NONE ? Arrays.stream(ends).sum() : ends[dancer];
    }

    int can(int tune) {
        if (!isTune(tune)) {
            return NONE;
        }
        int[] ends = ends(tune);
        int bits = 0;
        for (int d = 0; d < 8; d++) {
            bits += ends[d] > 0 ? 1 << d : 0;
        }
        return bits;
    }

    private long state;

    private int draw(int m) {
        state = (state * 1103 + 12345) % 1000003;
        return (int) (state % m);
    }

    int evenings(int seed, int n) {
        if (!in(seed, 0, 1000000) || !in(n, 1, 20)) {
            return no(-1);
        }
        state = seed;
        List<Debt> paper = new ArrayList<>(s.debts);
        int went = 0;
        for (int i = 0; i < 6 * n && !s.tunes.isEmpty(); i++) {
            int who = draw(8);
            int tune = draw(s.tunes.size());
            for (int d = 0; d < paper.size(); d++) {
                Debt debt = paper.get(d);
                if (debt.tune() == tune && debt.ower() != who && debt.creditor() != who) {
                    paper.set(d, new Debt(who, debt.creditor(), tune, debt.halves(), debt.since()));
                    went++;
                    break;
                }
            }
        }
        evenings = new int[8][2];
        for (int who = 0; who < 8; who++) {
            int dancer = who;
            List<Debt> his = paper.stream().filter(d -> d.ower() == dancer).toList();
            evenings[who][0] = his.stream().mapToInt(Debt::halves).sum();
            evenings[who][1] = new TreeSet<>(his.stream().map(Debt::creditor).toList()).size();
        }
        return yes(went);
    }

    int owed(int dancer, int what) {
        return evenings == null || !in(dancer, 0, 7) || !in(what, 0, 1) ? NONE : evenings[dancer][what];
    }

    int image(int k) {
        if (!in(k, 0, 1)) {
            return no(-1);
        }
        images[k] = s.copy();
        return yes(0);
    }

    int back(int k) {
        if (!in(k, 0, 1)) {
            return no(-1);
        }
        if (images[k] == null) {
            return no(-2);
        }
        s = images[k].copy();
        return yes(0);
    }

    int count(int what) {
        return switch (what) {
            case 0 -> s.tunes.size();
            case 1 -> s.debts.size();
            case 2 -> s.debts.stream().mapToInt(Debt::halves).sum();
            case 3 -> s.laws.size();
            case 4 -> s.weddings.size();
            case 5 -> s.dances.size();
            case 6 -> s.ahead.size();
            case 7 -> tape.size();
            case 8 -> refused[1];
            case 9 -> refused[2];
            case 10 -> refused[3];
            case 11 -> refused[5];
            case 12 -> refused[6];
            case 13 -> s.forced;
            case 14 -> s.evening;
            default -> NONE;
        };
    }

    int status() {
        return status;
    }
}
