import java.util.Arrays;

/** A village whose dancers owe one another tunes: ../shared/DOC.md says what it must do. */
public final class FiddlerDebts {
    public static final int NONE = -1;
    public static final int NOTHING = -1000000000;

    private static final int DANCERS = 8;
    private static final int MOST_TUNES = 6;
    private static final int LONGEST_TUNE = 30;
    private static final int MOST_DEBTS = 16;
    private static final int MOST_HALVES = 9;
    private static final int LAST_EVENING = 999;
    private static final int MOST_LAWS = 6;
    private static final int MOST_CLAUSES = 12;
    private static final int MOST_WEDDINGS = 8;
    private static final int MOST_MINUTES = 240;
    private static final int MOST_BARRELS = 8;
    private static final int MOST_DANCES = 10;
    private static final int MOST_AHEAD = 12;
    private static final int MOST_TAPE = 400;
    private static final int MOST_IMAGES = 2;
    private static final int GREATEST_SEED = 1000000;
    private static final int MOST_EVENINGS = 20;
    private static final int NEVER = 100;

    private static final int BAD_NUMBER = -1;
    private static final int NO_SUCH = -2;
    private static final int NOT_AS_IT_STANDS = -3;
    private static final int NO_ROOM = -5;
    private static final int BAD_TEXT = -6;
    private static final int REASONS = 5;
    private static final int FIRST_REASON = 8;

    // What a law is made of, once it is read: pairs of one of these and a number.
    private static final int CLAUSE_WORTH = 1;
    private static final int CLAUSE_BARS = 2;
    private static final int CLAUSE_VOIDS = 3;
    private static final int NUMBER = 4;
    private static final int WORD = 5;
    private static final int ADD = 6;
    private static final int SUBTRACT = 7;
    private static final int MULTIPLY = 8;
    private static final int DIVIDE = 9;
    private static final int LESS = 10;
    private static final int MORE = 11;
    private static final int SAME = 12;
    private static final int NOT = 13;
    private static final int OR = 14;
    private static final int AND = 15;

    private static final int OWER = 0;
    private static final int CREDITOR = 1;
    private static final int TUNE = 2;
    private static final int LENGTH = 3;
    private static final int HALVES = 4;
    private static final int AGE = 5;
    private static final int DEBTS = 6;

    private final Village village = new Village();
    private final Village[] images = new Village[MOST_IMAGES];
    private final Tape tape = new Tape();
    private final Reader reader = new Reader(tape);
    private final Judge judge = new Judge(village);
    private final Nets nets = new Nets(village, judge);
    private final Ring ring = new Ring(village, judge);
    private final Feast feast = new Feast(village, judge);
    private final Bands bands = new Bands(village, judge);
    private final Orders orders = new Orders(village);
    private final Paper paper = new Paper(village);
    private final int[] refusals = new int[REASONS];
    private int sung = 0;
    private int fault = NONE;
    private int status = 0;

    public FiddlerDebts() {
    }

    public int tune(int length) {
        if (length < 1 || length > LONGEST_TUNE) {
            return refuse(BAD_NUMBER);
        }
        int number = village.addTune(length);
        return number == NONE ? refuse(NO_ROOM) : done(number);
    }

    public int length(int tune) {
        return village.hasTune(tune) ? village.lengths[tune] : NONE;
    }

    public int owe(int ower, int creditor, int tune, int halves) {
        if (!canOwe(ower, creditor, halves)) {
            return refuse(BAD_NUMBER);
        }
        if (!village.hasTune(tune)) {
            return refuse(NO_SUCH);
        }
        int number = village.debts.add(ower, creditor, tune, halves, village.evening);
        return number == NONE ? refuse(NO_ROOM) : done(number);
    }

    public int of(int debt, int what) {
        Debts debts = village.debts;
        if (!debts.has(debt) || what < 0 || what > 7) {
            return NONE;
        }
        if (what <= 4) {
            return debts.told(debt, what);
        }
        judge.hear();
        if (what == 5) {
            return judge.worths[debt];
        }
        boolean so = what == 6 ? judge.voided[debt] : judge.barred[debt];
        return so ? 1 : 0;
    }

    public int pay(int debt, int halves) {
        if (halves < 1 || halves > MOST_HALVES) {
            return refuse(BAD_NUMBER);
        }
        Debts debts = village.debts;
        if (!debts.has(debt)) {
            return refuse(NO_SUCH);
        }
        if (halves > debts.halves[debt]) {
            return refuse(BAD_NUMBER);
        }
        int rest = debts.halves[debt] - halves;
        debts.halves[debt] = rest;
        debts.dropPlayed();
        return done(rest);
    }

    public int funeral(int dancer) {
        if (!isDancer(dancer)) {
            return refuse(BAD_NUMBER);
        }
        return done(village.debts.bury(dancer));
    }

    public int terms(int what, int value) {
        if (what != 0 || value < 0 || value > LAST_EVENING) {
            return refuse(BAD_NUMBER);
        }
        int before = village.evening;
        village.evening = value;
        return done(before);
    }

    public int feed(int a, int b, int c, int d, int e) {
        if (!tape.hasRoomFor(20)) {
            return NONE;
        }
        tape.write(a);
        tape.write(b);
        tape.write(c);
        tape.write(d);
        tape.write(e);
        return tape.size;
    }

    public int end(int n) {
        if (n < 0 || n > tape.size) {
            return NONE;
        }
        tape.size = n;
        return n;
    }

    public int row() {
        if (tape.size == 0) {
            return refuse(BAD_TEXT);
        }
        int came = 0;
        int missed = 0;
        for (int at = 0; at < tape.size; at += 4) {
            if (comes(at)) {
                came++;
            } else {
                missed++;
            }
        }
        tape.size = 0;
        sung = missed;
        return done(came);
    }

    public int sung() {
        return sung;
    }

    public int law() {
        int number = NONE;
        int reason = NO_ROOM;
        if (village.lawCount < MOST_LAWS) {
            int[] code = reader.read();
            fault = code == null ? reader.at : NONE;
            reason = BAD_TEXT;
            number = village.addLaw(code);
        }
        tape.size = 0;
        return number == NONE ? refuse(reason) : done(number);
    }

    public int fault() {
        return fault;
    }

    public int force(int law) {
        if (law != NONE && !village.hasLaw(law)) {
            return refuse(NO_SUCH);
        }
        int before = village.forced;
        village.forced = law;
        return done(before);
    }

    public int balance(int dancer) {
        if (!isDancer(dancer)) {
            return NOTHING;
        }
        judge.hear();
        return judge.balanceOf(dancer);
    }

    public int richest() {
        judge.hear();
        int best = 0;
        int most = judge.balanceOf(0);
        for (int dancer = 1; dancer < DANCERS; dancer++) {
            int balance = judge.balanceOf(dancer);
            if (balance > most) {
                most = balance;
                best = dancer;
            }
        }
        return best;
    }

    public int net(int dancer, int tune) {
        if (!isDancer(dancer) || !village.hasTune(tune)) {
            return NOTHING;
        }
        nets.addUp(tune);
        return nets.nets[dancer];
    }

    public int left(int tune, int what) {
        if (!village.hasTune(tune) || what < 0 || what > 2) {
            return NONE;
        }
        nets.addUp(tune);
        if (what == 0) {
            return nets.all;
        }
        return what == 1 ? nets.least() : nets.fewestPayments();
    }

    public int ring(int tune, int i) {
        if (!village.hasTune(tune) || !ring.find(tune)) {
            return NONE;
        }
        if (i == NONE) {
            return ring.size;
        }
        return i >= 0 && i < ring.size ? ring.dancers[i] : NONE;
    }

    public int cancel(int tune) {
        if (!village.hasTune(tune)) {
            return refuse(NO_SUCH);
        }
        if (!ring.find(tune)) {
            return refuse(NOT_AS_IT_STANDS);
        }
        return done(ring.drop());
    }

    public int best(int host, int minutes, int barrels, int what) {
        if (!isWedding(host, minutes) || barrels < 0 || barrels > MOST_BARRELS) {
            return NONE;
        }
        int debt = what - 3;
        if (what < 0 || (what > 2 && !village.debts.has(debt))) {
            return NONE;
        }
        feast.find(host, minutes, barrels);
        if (what == 0) {
            return feast.worth;
        }
        if (what == 1) {
            return feast.owers;
        }
        return what == 2 ? feast.minutes : feast.halves[debt];
    }

    public int play(int host, int minutes, int barrels) {
        if (!isWedding(host, minutes) || barrels < 0 || barrels > MOST_BARRELS) {
            return refuse(BAD_NUMBER);
        }
        feast.find(host, minutes, barrels);
        feast.payAll();
        return done(feast.worth);
    }

    public int bands(int host, int what) {
        if (!isDancer(host) || what < 0 || what > 1) {
            return NONE;
        }
        bands.find(host);
        return what == 0 ? bands.minutes : bands.first;
    }

    public int wedding(int host, int minutes) {
        if (!isWedding(host, minutes)) {
            return refuse(BAD_NUMBER);
        }
        return village.addWedding(host, minutes) ? done(village.weddings) : refuse(NO_ROOM);
    }

    public int divorce() {
        int before = village.weddings;
        village.weddings = 0;
        return before;
    }

    public int free(int dancer) {
        return isDancer(dancer) ? feast.freeBehind(dancer) : NONE;
    }

    public int dance(int dancer, int tune) {
        if (!isDancer(dancer)) {
            return refuse(BAD_NUMBER);
        }
        if (!village.hasTune(tune)) {
            return refuse(NO_SUCH);
        }
        int number = village.addDance(dancer, tune);
        return number == NONE ? refuse(NO_ROOM) : done(number);
    }

    public int ahead(int first, int later) {
        if (first == later) {
            return refuse(BAD_NUMBER);
        }
        if (!village.hasDance(first) || !village.hasDance(later)) {
            return refuse(NO_SUCH);
        }
        return village.addAhead(first, later) ? done(village.aheads) : refuse(NO_ROOM);
    }

    public int forget() {
        int before = village.dances;
        village.dances = 0;
        village.aheads = 0;
        return before;
    }

    public int orders(int tune, int dancer) {
        if (!village.hasTune(tune) || (dancer != NONE && !isDancer(dancer))) {
            return NONE;
        }
        orders.find(tune);
        return dancer == NONE ? orders.all() : orders.endedBy(dancer);
    }

    public int can(int tune) {
        if (!village.hasTune(tune)) {
            return NONE;
        }
        orders.find(tune);
        int bits = 0;
        for (int dancer = 0; dancer < DANCERS; dancer++) {
            if (orders.endedBy(dancer) > 0) {
                bits |= 1 << dancer;
            }
        }
        return bits;
    }

    public int evenings(int seed, int n) {
        if (seed < 0 || seed > GREATEST_SEED || n < 1 || n > MOST_EVENINGS) {
            return refuse(BAD_NUMBER);
        }
        return done(paper.write(seed, n));
    }

    public int owed(int dancer, int what) {
        if (!paper.written || !isDancer(dancer) || what < 0 || what > 1) {
            return NONE;
        }
        return what == 0 ? paper.owes[dancer] : Integer.bitCount(paper.creditors[dancer]);
    }

    public int image(int k) {
        if (k < 0 || k >= MOST_IMAGES) {
            return refuse(BAD_NUMBER);
        }
        Village image = images[k];
        if (image == null) {
            image = new Village();
            images[k] = image;
        }
        image.become(village);
        return done(0);
    }

    public int back(int k) {
        if (k < 0 || k >= MOST_IMAGES) {
            return refuse(BAD_NUMBER);
        }
        Village image = images[k];
        if (image == null) {
            return refuse(NO_SUCH);
        }
        village.become(image);
        return done(0);
    }

    public int count(int what) {
        switch (what) {
            case 0:
                return village.tunes;
            case 1:
                return village.debts.size;
            case 2:
                return village.debts.allHalves();
            case 3:
                return village.lawCount;
            case 4:
                return village.weddings;
            case 5:
                return village.dances;
            case 6:
                return village.aheads;
            case 7:
                return tape.size;
            case 13:
                return village.forced;
            case 14:
                return village.evening;
            default:
                return refused(what - FIRST_REASON);
        }
    }

    public int status() {
        return status;
    }

    private int refuse(int reason) {
        status = reason;
        // There is no reason -4, so the two behind it stand one place lower.
        int slot = reason > NO_ROOM ? -1 - reason : -2 - reason;
        if (slot >= 0 && slot < REASONS) {
            refusals[slot]++;
        }
        return reason;
    }

    private int refused(int slot) {
        return slot >= 0 && slot < REASONS ? refusals[slot] : NONE;
    }

    private int done(int answer) {
        status = 0;
        return answer;
    }

    private boolean comes(int at) {
        if (at + 3 >= tape.size) {
            return false;
        }
        int ower = tape.byteAt(at);
        int creditor = tape.byteAt(at + 1);
        int tune = tape.byteAt(at + 2);
        int halves = tape.byteAt(at + 3);
        if (!canOwe(ower, creditor, halves) || !village.hasTune(tune)) {
            return false;
        }
        return village.debts.add(ower, creditor, tune, halves, village.evening) != NONE;
    }

    private static boolean isDancer(int dancer) {
        return dancer >= 0 && dancer < DANCERS;
    }

    private static boolean canOwe(int ower, int creditor, int halves) {
        return isDancer(ower) && isDancer(creditor) && ower != creditor
            && halves >= 1 && halves <= MOST_HALVES;
    }

    private static boolean isWedding(int host, int minutes) {
        return isDancer(host) && minutes >= 0 && minutes <= MOST_MINUTES;
    }

    /** All that an IMAGE keeps. */
    private static final class Village {
        private final int[] lengths = new int[MOST_TUNES];
        private int tunes = 0;
        private final Debts debts = new Debts();
        private int evening = 0;
        // A law is never changed once it is made, so villages may share it.
        private final int[][] laws = new int[MOST_LAWS][];
        private int lawCount = 0;
        private int forced = NONE;
        private final int[] hosts = new int[MOST_WEDDINGS];
        private final int[] minutes = new int[MOST_WEDDINGS];
        private int weddings = 0;
        private final int[] dancers = new int[MOST_DANCES];
        private final int[] danced = new int[MOST_DANCES];
        private int dances = 0;
        private final int[] firsts = new int[MOST_AHEAD];
        private final int[] laters = new int[MOST_AHEAD];
        private int aheads = 0;

        private void become(Village other) {
            System.arraycopy(other.lengths, 0, lengths, 0, MOST_TUNES);
            tunes = other.tunes;
            debts.become(other.debts);
            evening = other.evening;
            for (int law = 0; law < MOST_LAWS; law++) {
                laws[law] = other.laws[law];
            }
            lawCount = other.lawCount;
            forced = other.forced;
            System.arraycopy(other.hosts, 0, hosts, 0, MOST_WEDDINGS);
            System.arraycopy(other.minutes, 0, minutes, 0, MOST_WEDDINGS);
            weddings = other.weddings;
            System.arraycopy(other.dancers, 0, dancers, 0, MOST_DANCES);
            System.arraycopy(other.danced, 0, danced, 0, MOST_DANCES);
            dances = other.dances;
            System.arraycopy(other.firsts, 0, firsts, 0, MOST_AHEAD);
            System.arraycopy(other.laters, 0, laters, 0, MOST_AHEAD);
            aheads = other.aheads;
        }

        private boolean hasTune(int tune) {
            return tune >= 0 && tune < tunes && tune < MOST_TUNES;
        }

        private boolean hasLaw(int law) {
            return law >= 0 && law < lawCount && law < MOST_LAWS;
        }

        private boolean hasDance(int dance) {
            return dance >= 0 && dance < dances && dance < MOST_DANCES;
        }

        private int addTune(int length) {
            if (tunes >= MOST_TUNES) {
                return NONE;
            }
            lengths[tunes] = length;
            tunes++;
            return tunes - 1;
        }

        private int addLaw(int[] code) {
            if (code == null || lawCount >= MOST_LAWS) {
                return NONE;
            }
            laws[lawCount] = code;
            lawCount++;
            return lawCount - 1;
        }

        private int[] lawInForce() {
            return hasLaw(forced) ? laws[forced] : null;
        }

        private boolean addWedding(int host, int most) {
            if (weddings >= MOST_WEDDINGS) {
                return false;
            }
            hosts[weddings] = host;
            minutes[weddings] = most;
            weddings++;
            return true;
        }

        private int addDance(int dancer, int tune) {
            if (dances >= MOST_DANCES) {
                return NONE;
            }
            dancers[dances] = dancer;
            danced[dances] = tune;
            dances++;
            return dances - 1;
        }

        private boolean addAhead(int first, int later) {
            if (aheads >= MOST_AHEAD) {
                return false;
            }
            firsts[aheads] = first;
            laters[aheads] = later;
            aheads++;
            return true;
        }

        private int lengthOfDebt(int debt) {
            if (debt < 0 || debt >= debts.size || debt >= MOST_DEBTS) {
                return 0;
            }
            int tune = debts.tunes[debt];
            return tune >= 0 && tune < tunes && tune < MOST_TUNES ? lengths[tune] : 0;
        }
    }

    private static final class Debts {
        private final int[] owers = new int[MOST_DEBTS];
        private final int[] creditors = new int[MOST_DEBTS];
        private final int[] tunes = new int[MOST_DEBTS];
        private final int[] halves = new int[MOST_DEBTS];
        private final int[] since = new int[MOST_DEBTS];
        private int size = 0;

        private void become(Debts other) {
            System.arraycopy(other.owers, 0, owers, 0, MOST_DEBTS);
            System.arraycopy(other.creditors, 0, creditors, 0, MOST_DEBTS);
            System.arraycopy(other.tunes, 0, tunes, 0, MOST_DEBTS);
            System.arraycopy(other.halves, 0, halves, 0, MOST_DEBTS);
            System.arraycopy(other.since, 0, since, 0, MOST_DEBTS);
            size = other.size;
        }

        private boolean has(int debt) {
            return debt >= 0 && debt < size && debt < MOST_DEBTS;
        }

        private int add(int ower, int creditor, int tune, int many, int evening) {
            if (size >= MOST_DEBTS) {
                return NONE;
            }
            owers[size] = ower;
            creditors[size] = creditor;
            tunes[size] = tune;
            halves[size] = many;
            since[size] = evening;
            size++;
            return size - 1;
        }

        private int told(int debt, int what) {
            if (!has(debt)) {
                return NONE;
            }
            switch (what) {
                case 0:
                    return owers[debt];
                case 1:
                    return creditors[debt];
                case 2:
                    return tunes[debt];
                case 3:
                    return halves[debt];
                case 4:
                    return since[debt];
                default:
                    return NONE;
            }
        }

        private int bury(int dancer) {
            int gone = 0;
            for (int debt = 0; debt < size && debt < MOST_DEBTS; debt++) {
                if (owers[debt] == dancer || creditors[debt] == dancer) {
                    gone += halves[debt];
                    halves[debt] = 0;
                }
            }
            dropPlayed();
            return gone;
        }

        private void dropPlayed() {
            int to = 0;
            for (int debt = 0; debt < size && debt < MOST_DEBTS; debt++) {
                if (halves[debt] > 0) {
                    owers[to] = owers[debt];
                    creditors[to] = creditors[debt];
                    tunes[to] = tunes[debt];
                    halves[to] = halves[debt];
                    since[to] = since[debt];
                    to++;
                }
            }
            size = to;
        }

        private int allHalves() {
            int all = 0;
            for (int debt = 0; debt < size && debt < MOST_DEBTS; debt++) {
                all += halves[debt];
            }
            return all;
        }
    }

    private static final class Tape {
        private final byte[] bytes = new byte[MOST_TAPE];
        private int size = 0;

        private boolean hasRoomFor(int more) {
            return size + more <= MOST_TAPE;
        }

        private void write(int number) {
            for (int shift = 24; shift >= 0 && size < MOST_TAPE; shift -= 8) {
                bytes[size] = (byte) (number >> shift);
                size++;
            }
        }

        private int byteAt(int at) {
            return at >= 0 && at < size && at < MOST_TAPE ? bytes[at] & 255 : NONE;
        }
    }

    /** Makes of the TAPE's text the pairs of numbers that the Judge asks. */
    private static final class Reader {
        private static final int MOST_PARTS = 50;
        private static final int MOST_BRACKETS = 8;
        private static final int GREATEST_NUMBER = 1000;
        // Twice what 12 clauses, 50 parts and what joins them can come to.
        private static final int MOST_CODE = 800;
        private static final int AT_END = 0;
        private static final int AT_LETTERS = 1;
        private static final int AT_DIGITS = 2;
        private static final int AT_SIGN = 3;

        private final Tape tape;
        private final int[] code = new int[MOST_CODE];
        private int size = 0;
        private int parts = 0;
        private int clauses = 0;
        private int kind = AT_END;
        private int number = 0;
        private int at = 0;
        private int after = 0;

        private Reader(Tape tape) {
            this.tape = tape;
        }

        /** The law, or null: then the token at "at" can't go on. */
        private int[] read() {
            size = 0;
            parts = 0;
            clauses = 0;
            after = 0;
            step();
            boolean good = readClause();
            for (int more = 0; more < MOST_CLAUSES && good && seesSign(';'); more++) {
                step();
                good = readClause();
            }
            return good && kind == AT_END ? Arrays.copyOf(code, size) : null;
        }

        private boolean readClause() {
            int what = clauseKind();
            if (what == NONE || clauses >= MOST_CLAUSES) {
                return false;
            }
            clauses++;
            int start = put(what, 0);
            step();
            if (what == CLAUSE_WORTH && !readSum(0)) {
                return false;
            }
            if (sees("if")) {
                step();
                if (!readTest(0)) {
                    return false;
                }
            } else {
                put(NUMBER, 1);
            }
            leadHere(start);
            return true;
        }

        private int clauseKind() {
            if (sees("worth")) {
                return CLAUSE_WORTH;
            }
            if (sees("bars")) {
                return CLAUSE_BARS;
            }
            return sees("voids") ? CLAUSE_VOIDS : NONE;
        }

        private boolean readTest(int depth) {
            boolean good = readBoth(depth);
            for (int more = 0; more < MOST_TAPE && good && sees("or"); more++) {
                int jump = put(OR, 0);
                step();
                good = readBoth(depth);
                leadHere(jump);
            }
            return good;
        }

        private boolean readBoth(int depth) {
            boolean good = readPlain(depth);
            for (int more = 0; more < MOST_TAPE && good && sees("and"); more++) {
                int jump = put(AND, 0);
                step();
                good = readPlain(depth);
                leadHere(jump);
            }
            return good;
        }

        private boolean readPlain(int depth) {
            boolean turned = false;
            for (int more = 0; more < MOST_TAPE && sees("not"); more++) {
                turned = !turned;
                step();
            }
            boolean good = seesSign('(') ? readInBrackets(depth, ')') : readComparison(depth);
            if (turned) {
                put(NOT, 0);
            }
            return good;
        }

        private boolean readComparison(int depth) {
            if (!readSum(depth)) {
                return false;
            }
            int comparison = seesSign('<') ? LESS : seesSign('>') ? MORE : seesSign('=') ? SAME : NONE;
            if (comparison == NONE) {
                return false;
            }
            step();
            boolean good = readSum(depth);
            put(comparison, 0);
            return good;
        }

        private boolean readSum(int depth) {
            boolean good = readTerm(depth);
            for (int more = 0; more < MOST_TAPE && good && (seesSign('+') || seesSign('-')); more++) {
                int joint = seesSign('+') ? ADD : SUBTRACT;
                step();
                good = readTerm(depth);
                put(joint, 0);
            }
            return good;
        }

        private boolean readTerm(int depth) {
            boolean good = readPart(depth);
            for (int more = 0; more < MOST_TAPE && good && (seesSign('*') || seesSign('/')); more++) {
                int joint = seesSign('*') ? MULTIPLY : DIVIDE;
                step();
                good = readPart(depth);
                put(joint, 0);
            }
            return good;
        }

        private boolean readPart(int depth) {
            if (seesSign('[')) {
                return readInBrackets(depth, ']');
            }
            boolean isNumber = kind == AT_DIGITS && number <= GREATEST_NUMBER;
            int word = isNumber ? NONE : wordHere();
            if ((!isNumber && word == NONE) || parts >= MOST_PARTS) {
                return false;
            }
            parts++;
            if (isNumber) {
                put(NUMBER, number);
            } else {
                put(WORD, word);
            }
            step();
            return true;
        }

        private boolean readInBrackets(int depth, char close) {
            if (depth >= MOST_BRACKETS) {
                return false;
            }
            step();
            boolean good = close == ')' ? readTest(depth + 1) : readSum(depth + 1);
            if (!good || !seesSign(close)) {
                return false;
            }
            step();
            return true;
        }

        private int wordHere() {
            if (sees("ower")) {
                return OWER;
            }
            if (sees("creditor")) {
                return CREDITOR;
            }
            if (sees("tune")) {
                return TUNE;
            }
            if (sees("length")) {
                return LENGTH;
            }
            if (sees("halves")) {
                return HALVES;
            }
            if (sees("age")) {
                return AGE;
            }
            return sees("debts") ? DEBTS : NONE;
        }

        private void step() {
            at = after;
            while (at < MOST_TAPE && tape.byteAt(at) == ' ') {
                at++;
            }
            after = at;
            number = 0;
            if (at >= tape.size) {
                kind = AT_END;
            } else if (isLetter(after)) {
                kind = AT_LETTERS;
                while (after < MOST_TAPE && isLetter(after)) {
                    after++;
                }
            } else if (isDigit(after)) {
                kind = AT_DIGITS;
                while (after < MOST_TAPE && isDigit(after)) {
                    // A number too great stays so, however many digits follow.
                    number = Math.min(number * 10 + tape.byteAt(after) - '0', GREATEST_NUMBER + 1);
                    after++;
                }
            } else {
                kind = AT_SIGN;
                after++;
            }
        }

        private boolean isLetter(int place) {
            int sign = tape.byteAt(place);
            return sign >= 'a' && sign <= 'z';
        }

        private boolean isDigit(int place) {
            int sign = tape.byteAt(place);
            return sign >= '0' && sign <= '9';
        }

        private boolean sees(String word) {
            if (kind != AT_LETTERS || after - at != word.length()) {
                return false;
            }
            for (int i = 0; i < word.length(); i++) {
                if (tape.byteAt(at + i) != word.charAt(i)) {
                    return false;
                }
            }
            return true;
        }

        private boolean seesSign(char sign) {
            return kind == AT_SIGN && tape.byteAt(at) == sign;
        }

        private int put(int what, int value) {
            int place = size;
            if (size + 1 < MOST_CODE) {
                code[size] = what;
                code[size + 1] = value;
                size += 2;
            }
            return place;
        }

        private void leadHere(int place) {
            if (place >= 0 && place + 1 < MOST_CODE) {
                code[place + 1] = size;
            }
        }
    }

    /** Asks the LAW in FORCE of each DEBT. */
    private static final class Judge {
        private static final int BOUND = 1000000000;
        private static final int MOST_WORTH = 999;
        private static final int MOST_STACK = 64;

        private final Village village;
        private final Debts debts;
        private final int[] worths = new int[MOST_DEBTS];
        private final boolean[] voided = new boolean[MOST_DEBTS];
        private final boolean[] barred = new boolean[MOST_DEBTS];
        private final int[] debtsOf = new int[DANCERS];
        private final int[] stack = new int[MOST_STACK];
        private int depth = 0;

        private Judge(Village village) {
            this.village = village;
            this.debts = village.debts;
        }

        private void hear() {
            Arrays.fill(debtsOf, 0);
            for (int debt = 0; debt < debts.size && debt < MOST_DEBTS; debt++) {
                int ower = debts.owers[debt];
                if (isDancer(ower)) {
                    debtsOf[ower]++;
                }
            }
            int[] code = village.lawInForce();
            for (int debt = 0; debt < debts.size && debt < MOST_DEBTS; debt++) {
                worths[debt] = village.lengthOfDebt(debt);
                voided[debt] = false;
                barred[debt] = false;
                if (code != null) {
                    hearDebt(code, debt);
                }
            }
        }

        private int balanceOf(int dancer) {
            int balance = 0;
            for (int debt = 0; debt < debts.size && debt < MOST_DEBTS; debt++) {
                if (!voided[debt]) {
                    int worth = debts.halves[debt] * worths[debt];
                    if (debts.creditors[debt] == dancer) {
                        balance += worth;
                    }
                    if (debts.owers[debt] == dancer) {
                        balance -= worth;
                    }
                }
            }
            return balance;
        }

        private void hearDebt(int[] code, int debt) {
            int at = 0;
            for (int clause = 0; clause < MOST_CLAUSES && at + 1 < code.length; clause++) {
                int what = code[at];
                int to = code[at + 1];
                if (to <= at || to > code.length) {
                    return;
                }
                if (holds(code, at + 2, to, debt)) {
                    if (what == CLAUSE_WORTH) {
                        // The sum was put down first, the test stands upon it.
                        worths[debt] = Math.max(0, Math.min(MOST_WORTH, stack[0]));
                    } else if (what == CLAUSE_VOIDS) {
                        voided[debt] = true;
                    } else {
                        barred[debt] = true;
                    }
                }
                at = to;
            }
        }

        private boolean holds(int[] code, int from, int to, int debt) {
            depth = 0;
            int at = from;
            for (int steps = 0; steps < code.length && at + 1 < to && to <= code.length; steps++) {
                int what = code[at];
                int value = code[at + 1];
                at += 2;
                if (what == NUMBER) {
                    push(value);
                } else if (what == WORD) {
                    push(wordOf(value, debt));
                } else if (what == OR || what == AND) {
                    if (top() == (what == OR ? 1 : 0)) {
                        // Only ever ahead: each step must leave fewer behind it.
                        at = Math.max(at, value);
                    } else {
                        pop();
                    }
                } else if (what == NOT) {
                    int turned = 1 - top();
                    pop();
                    push(turned);
                } else if (!join(what)) {
                    return false;
                }
            }
            return top() == 1;
        }

        private boolean join(int what) {
            if (depth < 2 || depth > MOST_STACK) {
                return false;
            }
            long left = stack[depth - 2];
            long right = stack[depth - 1];
            if (what == DIVIDE && right == 0) {
                return false;
            }
            long joined = joined(what, left, right);
            if (joined > BOUND || joined < -BOUND) {
                return false;
            }
            pop();
            pop();
            push((int) joined);
            return true;
        }

        private static long joined(int what, long left, long right) {
            switch (what) {
                case ADD:
                    return left + right;
                case SUBTRACT:
                    return left - right;
                case MULTIPLY:
                    return left * right;
                case DIVIDE:
                    return right == 0 ? 0 : left / right;
                case LESS:
                    return left < right ? 1 : 0;
                case MORE:
                    return left > right ? 1 : 0;
                default:
                    return left == right ? 1 : 0;
            }
        }

        private int wordOf(int word, int debt) {
            if (!debts.has(debt)) {
                return 0;
            }
            int ower = debts.owers[debt];
            switch (word) {
                case OWER:
                    return ower;
                case CREDITOR:
                    return debts.creditors[debt];
                case TUNE:
                    return debts.tunes[debt];
                case LENGTH:
                    return village.lengthOfDebt(debt);
                case HALVES:
                    return debts.halves[debt];
                case AGE:
                    return village.evening - debts.since[debt];
                default:
                    return isDancer(ower) ? debtsOf[ower] : 0;
            }
        }

        private void push(int value) {
            if (depth >= 0 && depth < MOST_STACK) {
                stack[depth] = value;
                depth++;
            }
        }

        private int top() {
            return depth > 0 && depth <= MOST_STACK ? stack[depth - 1] : 0;
        }

        private void pop() {
            if (depth > 0) {
                depth--;
            }
        }
    }

    /** NETS of one TUNE. */
    private static final class Nets {
        private final Debts debts;
        private final Judge judge;
        private final int[] nets = new int[DANCERS];
        private final int[] sums = new int[1 << DANCERS];
        private final int[] groups = new int[1 << DANCERS];
        private int all = 0;

        private Nets(Village village, Judge judge) {
            this.debts = village.debts;
            this.judge = judge;
        }

        private void addUp(int tune) {
            judge.hear();
            Arrays.fill(nets, 0);
            all = 0;
            for (int debt = 0; debt < debts.size && debt < MOST_DEBTS; debt++) {
                if (debts.tunes[debt] == tune && !judge.voided[debt]) {
                    int many = debts.halves[debt];
                    all += many;
                    change(debts.creditors[debt], many);
                    change(debts.owers[debt], -many);
                }
            }
        }

        private void change(int dancer, int many) {
            if (isDancer(dancer)) {
                nets[dancer] += many;
            }
        }

        private int least() {
            int least = 0;
            for (int net : nets) {
                least += Math.max(0, net);
            }
            return least;
        }

        /**
         * Dancers whose nets make 0 among themselves need one payment fewer than they are,
         * so the more such groups there are, the fewer payments.
         */
        private int fewestPayments() {
            int concerned = 0;
            for (int dancer = 0; dancer < DANCERS; dancer++) {
                if (nets[dancer] != 0) {
                    concerned |= 1 << dancer;
                }
            }
            sums[0] = 0;
            groups[0] = 0;
            for (int set = 1; set <= concerned && set < sums.length; set++) {
                if ((set & concerned) == set) {
                    group(set);
                }
            }
            return Integer.bitCount(concerned) - groups[concerned];
        }

        private void group(int set) {
            int most = 0;
            int sum = 0;
            for (int dancer = 0; dancer < DANCERS; dancer++) {
                int without = set & ~(1 << dancer);
                if (without != set) {
                    most = Math.max(most, groups[without]);
                    sum = sums[without] + nets[dancer];
                }
            }
            sums[set] = sum;
            groups[set] = sum == 0 ? most + 1 : most;
        }
    }

    /** The RING of one TUNE. */
    private static final class Ring {
        private final Debts debts;
        private final Judge judge;
        private final int[] owes = new int[DANCERS];
        private final int[] dancers = new int[DANCERS];
        private int size = 0;
        private int tune = NONE;

        private Ring(Village village, Judge judge) {
            this.debts = village.debts;
            this.judge = judge;
        }

        private boolean find(int ofTune) {
            tune = ofTune;
            judge.hear();
            Arrays.fill(owes, 0);
            int owers = 0;
            int creditors = 0;
            for (int debt = 0; debt < debts.size && debt < MOST_DEBTS; debt++) {
                int ower = debts.owers[debt];
                if (counts(debt) && isDancer(ower)) {
                    owes[ower] |= 1 << debts.creditors[debt];
                    owers |= 1 << ower;
                    creditors |= 1 << debts.creditors[debt];
                }
            }
            int both = owers & creditors;
            for (int many = 2; many <= DANCERS; many++) {
                for (int set = 0; set <= both && set < 1 << DANCERS; set++) {
                    if ((set & both) == set && Integer.bitCount(set) == many && goesRound(set, many)) {
                        size = many;
                        return true;
                    }
                }
            }
            return false;
        }

        private boolean counts(int debt) {
            return debts.has(debt) && debts.tunes[debt] == tune && !judge.voided[debt];
        }

        /**
         * A ring of fewest dancers has no short cut, so within its set each owes just one:
         * the lowest next one is the only one.
         */
        private boolean goesRound(int set, int many) {
            int first = lowestOf(set);
            int dancer = first;
            int seen = 0;
            for (int i = 0; i < many && i < DANCERS; i++) {
                if (!isDancer(dancer) || (seen >> dancer & 1) != 0) {
                    return false;
                }
                dancers[i] = dancer;
                seen |= 1 << dancer;
                dancer = lowestOf(owes[dancer] & set);
            }
            return dancer == first;
        }

        private static int lowestOf(int set) {
            for (int dancer = 0; dancer < DANCERS; dancer++) {
                if ((set >> dancer & 1) != 0) {
                    return dancer;
                }
            }
            return NONE;
        }

        private int drop() {
            int least = MOST_DEBTS * MOST_HALVES;
            for (int i = 0; i < size && i < DANCERS; i++) {
                least = Math.min(least, between(dancerAt(i), dancerAt(i + 1)));
            }
            for (int i = 0; i < size && i < DANCERS; i++) {
                take(dancerAt(i), dancerAt(i + 1), least);
            }
            debts.dropPlayed();
            return least;
        }

        private int dancerAt(int i) {
            int place = i == size ? 0 : i;
            return place >= 0 && place < DANCERS ? dancers[place] : NONE;
        }

        private boolean isBetween(int debt, int ower, int creditor) {
            return counts(debt) && debts.owers[debt] == ower && debts.creditors[debt] == creditor;
        }

        private int between(int ower, int creditor) {
            int many = 0;
            for (int debt = 0; debt < debts.size && debt < MOST_DEBTS; debt++) {
                if (isBetween(debt, ower, creditor)) {
                    many += debts.halves[debt];
                }
            }
            return many;
        }

        private void take(int ower, int creditor, int many) {
            int rest = many;
            for (int debt = 0; debt < debts.size && debt < MOST_DEBTS; debt++) {
                if (isBetween(debt, ower, creditor)) {
                    int taken = Math.min(rest, debts.halves[debt]);
                    debts.halves[debt] -= taken;
                    rest -= taken;
                }
            }
        }
    }

    /** What is BEST at a WEDDING, and what one alone plays at all of them. */
    private static final class Feast {
        private static final int ROOM = MOST_MINUTES + 1;
        // What is good of a choice, in one number: more worth, fewer owers, lower bits, fewer minutes.
        private static final long WORTH_UNIT = 1L << 20;
        private static final long OWER_UNIT = 1L << 16;
        private static final long BIT_UNIT = 1L << 8;

        private final Village village;
        private final Debts debts;
        private final Judge judge;
        // By owers at most, then by minutes at most: the best good, and its halves as digits, debt 0 the highest.
        private final long[] goods = new long[DANCERS * ROOM];
        private final long[] digits = new long[DANCERS * ROOM];
        private final long[] withGoods = new long[ROOM];
        private final long[] withDigits = new long[ROOM];
        private final long[] places = new long[MOST_DEBTS];
        private final int[] halves = new int[MOST_DEBTS];
        private int host = NONE;
        private int most = 0;
        private int worth = 0;
        private int owers = 0;
        private int minutes = 0;

        private Feast(Village village, Judge judge) {
            this.village = village;
            this.debts = village.debts;
            this.judge = judge;
            long place = 1;
            for (int debt = MOST_DEBTS - 1; debt >= 0; debt--) {
                places[debt] = place;
                place *= 10;
            }
        }

        private void find(int ofHost, int within, int barrels) {
            judge.hear();
            host = ofHost;
            int players = 0;
            int needed = 0;
            for (int debt = 0; debt < debts.size && debt < MOST_DEBTS; debt++) {
                if (isPlayable(debt)) {
                    players |= 1 << debts.owers[debt];
                    needed += debts.halves[debt] * village.lengthOfDebt(debt);
                }
            }
            most = Math.min(Math.min(within, needed), MOST_MINUTES);
            // Where there is a barrel for each, owers need not be counted apart.
            boolean enough = barrels >= Integer.bitCount(players);
            int top = enough ? 0 : barrels;
            clear(top);
            for (int ower = 0; ower < DANCERS; ower++) {
                if ((players >> ower & 1) != 0) {
                    for (int layer = top; layer >= (enough ? 0 : 1); layer--) {
                        join(ower, enough ? layer : layer - 1, layer);
                    }
                }
            }
            read(digits[placeOf(top, most)]);
        }

        private boolean isPlayable(int debt) {
            return debts.has(debt) && debts.creditors[debt] == host && !judge.voided[debt] && !judge.barred[debt];
        }

        private static int placeOf(int layer, int minute) {
            int place = layer * ROOM + minute;
            return place >= 0 && place < DANCERS * ROOM ? place : 0;
        }

        private void clear(int top) {
            int behind = Math.min((top + 1) * ROOM, goods.length);
            for (int i = 0; i < behind; i++) {
                goods[i] = 0;
                digits[i] = 0;
            }
        }

        private void join(int ower, int from, int to) {
            long cost = OWER_UNIT + BIT_UNIT * (1L << ower);
            for (int minute = 0; minute <= most && minute < ROOM; minute++) {
                int place = placeOf(from, minute);
                withGoods[minute] = goods[place] - cost;
                withDigits[minute] = digits[place];
            }
            for (int debt = 0; debt < debts.size && debt < MOST_DEBTS; debt++) {
                if (isPlayable(debt) && debts.owers[debt] == ower) {
                    offer(debt);
                }
            }
            for (int minute = 0; minute <= most && minute < ROOM; minute++) {
                int place = placeOf(to, minute);
                if (isBetter(withGoods[minute], withDigits[minute], goods[place], digits[place])) {
                    goods[place] = withGoods[minute];
                    digits[place] = withDigits[minute];
                }
            }
        }

        /** Bundles of 1, 2, 4 .. halves and the rest make up every number of them. */
        private void offer(int debt) {
            int rest = debts.has(debt) ? debts.halves[debt] : 0;
            for (int bundle = 1; rest > 0 && bundle <= MOST_HALVES; bundle *= 2) {
                int many = Math.min(bundle, rest);
                offerBundle(debt, many);
                rest -= many;
            }
        }

        private void offerBundle(int debt, int many) {
            int takes = many * village.lengthOfDebt(debt);
            if (takes < 1 || debt < 0 || debt >= MOST_DEBTS) {
                return;
            }
            long good = WORTH_UNIT * many * judge.worths[debt] - takes;
            long digit = places[debt] * many;
            for (int minute = Math.min(most, ROOM - 1); minute >= takes; minute--) {
                long newGood = withGoods[minute - takes] + good;
                long newDigits = withDigits[minute - takes] + digit;
                if (isBetter(newGood, newDigits, withGoods[minute], withDigits[minute])) {
                    withGoods[minute] = newGood;
                    withDigits[minute] = newDigits;
                }
            }
        }

        private static boolean isBetter(long good, long digits, long thanGood, long thanDigits) {
            return good > thanGood || (good == thanGood && digits < thanDigits);
        }

        private void read(long chosen) {
            worth = 0;
            owers = 0;
            minutes = 0;
            for (int debt = 0; debt < debts.size && debt < MOST_DEBTS; debt++) {
                long place = places[debt];
                int many = place > 0 ? (int) (chosen / place % 10) : 0;
                halves[debt] = many;
                if (many > 0) {
                    worth += many * judge.worths[debt];
                    owers |= 1 << debts.owers[debt];
                    minutes += many * village.lengthOfDebt(debt);
                }
            }
        }

        private void payAll() {
            for (int debt = 0; debt < debts.size && debt < MOST_DEBTS; debt++) {
                debts.halves[debt] -= halves[debt];
            }
            debts.dropPlayed();
        }

        private int freeBehind(int dancer) {
            judge.hear();
            int open = 0;
            for (int debt = 0; debt < debts.size && debt < MOST_DEBTS; debt++) {
                boolean his = debts.owers[debt] == dancer && !judge.voided[debt];
                halves[debt] = his ? debts.halves[debt] : 0;
                open += halves[debt];
            }
            if (open == 0) {
                return NONE;
            }
            for (int wedding = 0; wedding < village.weddings && wedding < MOST_WEDDINGS; wedding++) {
                open -= playAlone(village.hosts[wedding], village.minutes[wedding]);
                if (open == 0) {
                    return wedding;
                }
            }
            return NEVER;
        }

        private int playAlone(int at, int within) {
            int played = 0;
            int rest = within;
            for (int debt = 0; debt < debts.size && debt < MOST_DEBTS; debt++) {
                int takes = village.lengthOfDebt(debt);
                if (debts.creditors[debt] == at && !judge.barred[debt] && takes > 0) {
                    int many = Math.min(halves[debt], rest / takes);
                    halves[debt] -= many;
                    rest -= many * takes;
                    played += many;
                }
            }
            return played;
        }
    }

    /** How TWO BANDS share the DEBTS to a HOST. */
    private static final class Bands {
        private final Village village;
        private final Debts debts;
        private final Judge judge;
        // By the minutes of a band: the lowest set of debts that takes so many.
        private final int[] lowest = new int[MOST_DEBTS * MOST_HALVES * LONGEST_TUNE + 1];
        private int minutes = 0;
        private int first = 0;

        private Bands(Village village, Judge judge) {
            this.village = village;
            this.debts = village.debts;
            this.judge = judge;
        }

        private void find(int host) {
            judge.hear();
            int all = 0;
            lowest[0] = 0;
            for (int debt = 0; debt < debts.size && debt < MOST_DEBTS; debt++) {
                if (debts.creditors[debt] == host && !judge.voided[debt]) {
                    int takes = debts.halves[debt] * village.lengthOfDebt(debt);
                    share(debt, takes, all);
                    all += takes;
                }
            }
            choose(all);
        }

        /** Debts come by their numbers, so a set without the new one is always the lower one. */
        private void share(int debt, int takes, int before) {
            int all = before + takes;
            if (takes < 1 || before < 0 || all >= lowest.length) {
                return;
            }
            for (int sum = before + 1; sum <= all; sum++) {
                lowest[sum] = NONE;
            }
            for (int sum = before; sum >= 0; sum--) {
                if (lowest[sum] != NONE && lowest[sum + takes] == NONE) {
                    lowest[sum + takes] = lowest[sum] | 1 << debt;
                }
            }
        }

        private void choose(int all) {
            minutes = all;
            first = 0;
            for (int sum = 0; sum <= all && sum < lowest.length; sum++) {
                int longer = Math.max(sum, all - sum);
                int set = lowest[sum];
                if (set != NONE && (longer < minutes || (longer == minutes && set < first))) {
                    minutes = longer;
                    first = set;
                }
            }
        }
    }

    /** ORDERS of the DANCES of one TUNE. */
    private static final class Orders {
        private final Village village;
        private final int[] aheadOf = new int[MOST_DANCES];
        private final int[] ways = new int[1 << MOST_DANCES];
        private int mine = 0;

        private Orders(Village village) {
            this.village = village;
        }

        private void find(int tune) {
            followAhead();
            mine = 0;
            for (int dance = 0; dance < village.dances && dance < MOST_DANCES; dance++) {
                if (village.danced[dance] == tune) {
                    mine |= 1 << dance;
                }
            }
            ways[0] = 1;
            for (int set = 1; set <= mine && set < ways.length; set++) {
                if ((set & mine) == set) {
                    ways[set] = waysOf(set);
                }
            }
        }

        private void followAhead() {
            Arrays.fill(aheadOf, 0);
            for (int i = 0; i < village.aheads && i < MOST_AHEAD; i++) {
                int later = village.laters[i];
                if (village.hasDance(later)) {
                    aheadOf[later] |= 1 << village.firsts[i];
                }
            }
            for (int through = 0; through < MOST_DANCES; through++) {
                for (int later = 0; later < MOST_DANCES; later++) {
                    if ((aheadOf[later] >> through & 1) != 0) {
                        aheadOf[later] |= aheadOf[through];
                    }
                }
            }
        }

        private int waysOf(int set) {
            int sum = 0;
            for (int dance = 0; dance < MOST_DANCES; dance++) {
                sum += endingWith(dance, set);
            }
            return sum;
        }

        private int endingWith(int dance, int set) {
            if (dance < 0 || dance >= MOST_DANCES) {
                return 0;
            }
            int others = set & ~(1 << dance);
            if (others == set || (aheadOf[dance] & mine & ~others) != 0) {
                return 0;
            }
            return others >= 0 && others < ways.length ? ways[others] : 0;
        }

        private int all() {
            return mine >= 0 && mine < ways.length ? ways[mine] : 0;
        }

        private int endedBy(int dancer) {
            int sum = 0;
            for (int dance = 0; dance < village.dances && dance < MOST_DANCES; dance++) {
                if (village.dancers[dance] == dancer) {
                    sum += endingWith(dance, mine);
                }
            }
            return sum;
        }
    }

    /** The latest EVENINGS: the debts themselves stay as they are. */
    private static final class Paper {
        private static final int DANCES_AN_EVENING = 6;
        private static final int FACTOR = 1103;
        private static final int ADDEND = 12345;
        private static final int MODULUS = 1000003;

        private final Village village;
        private final Debts debts;
        private final int[] owers = new int[MOST_DEBTS];
        private final int[] owes = new int[DANCERS];
        private final int[] creditors = new int[DANCERS];
        private boolean written = false;
        private int state = 0;

        private Paper(Village village) {
            this.village = village;
            this.debts = village.debts;
        }

        private int write(int seed, int n) {
            System.arraycopy(debts.owers, 0, owers, 0, MOST_DEBTS);
            state = seed;
            int went = 0;
            if (village.tunes > 0) {
                for (int i = 0; i < n * DANCES_AN_EVENING; i++) {
                    int dancer = draw(DANCERS);
                    int tune = draw(village.tunes);
                    if (takesOver(dancer, tune)) {
                        went++;
                    }
                }
            }
            addUp();
            written = true;
            return went;
        }

        private int draw(int many) {
            state = (state * FACTOR + ADDEND) % MODULUS;
            return many > 0 ? state % many : 0;
        }

        private boolean takesOver(int dancer, int tune) {
            for (int debt = 0; debt < debts.size && debt < MOST_DEBTS; debt++) {
                if (debts.tunes[debt] == tune && owers[debt] != dancer && debts.creditors[debt] != dancer) {
                    owers[debt] = dancer;
                    return true;
                }
            }
            return false;
        }

        private void addUp() {
            Arrays.fill(owes, 0);
            Arrays.fill(creditors, 0);
            for (int debt = 0; debt < debts.size && debt < MOST_DEBTS; debt++) {
                int ower = owers[debt];
                if (isDancer(ower)) {
                    owes[ower] += debts.halves[debt];
                    creditors[ower] |= 1 << debts.creditors[debt];
                }
            }
        }
    }
}
