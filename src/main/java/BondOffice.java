import java.util.ArrayList;

/** An office for bonds that never earn but may win; ../shared/DOC.md says what each call does. */
public final class BondOffice {
    public static final int NONE = -1;

    private static final int MOST_HOLDERS = 60;
    private static final int MOST_BONDS = 1_000_000_000;
    private static final int MOST_LINES = 1_500;
    private static final int MOST_BOUGHT = 10_000_000;
    private static final int MOST_WAITED = 10_000;
    private static final int LAST_DAY = 100_000;
    private static final int MOST_TAPE = 400;
    private static final int FEED_BYTES = 20;
    private static final int MOST_RULES = 20;
    private static final int MOST_CLAUSES = 10;
    private static final int MOST_NUMBER = 1_000_000_000;
    private static final int MOST_NOISE = 20;
    private static final int LEAST_NOISE = 2;
    private static final int MOST_DRAWS = 40;
    private static final int MOST_PRIZES = 50;
    private static final int CLAIM_DAYS = 500;
    private static final int START_FACTOR = 31;
    private static final int STEP_FACTOR = 37;

    private static final int TOO_MANY_BONDS = -1;
    private static final int NOT_ALL_OWNED = -1;
    private static final int TOO_MANY_LINES = -2;

    private static final int CANT_STAND = 1;
    private static final int BAD_NUMBER = 2;
    private static final int ONE_CLAUSE_MORE = 3;
    private static final int FAULT_LESS = 10;

    private static final int OPEN = 0;
    private static final int CLAIMED = 1;
    private static final int LAPSED = 2;

    private static final int LINE_FACTS = 5;
    private static final int DRAW_FACTS = 9;
    private static final int WIN_FACTS = 5;

    private final ArrayList<Holder> holders = new ArrayList<Holder>();
    private final Ledger ledger = new Ledger();
    private final byte[] tape = new byte[MOST_TAPE];
    private int tapeSize = 0;
    private final ArrayList<Rule> rules = new ArrayList<Rule>();
    private int faultPlace = NONE;
    private final int[] noises = new int[MOST_NOISE];
    private int noiseSize = 0;
    private final ArrayList<Draw> draws = new ArrayList<Draw>();
    private final ArrayList<Win> wins = new ArrayList<Win>();
    private long carriedSum = 0;
    private int today = 0;

    public BondOffice() {
    }

    public int holder() throws IllegalStateException {
        if (holders.size() >= MOST_HOLDERS) {
            throw new IllegalStateException("there are 60 holders");
        }
        holders.add(new Holder());
        return holders.size() - 1;
    }

    public int buy(int holder, int n)
            throws IndexOutOfBoundsException, IllegalArgumentException, IllegalStateException {
        checkHolder(holder);
        if (n < 1 || n > MOST_BOUGHT) {
            throw new IllegalArgumentException("bonds bought are 1 to 10,000,000");
        }
        checkAlive(holder);
        return ledger.sell(holder, n, today);
    }

    public int give(int holder, int a, int b, int to)
            throws IndexOutOfBoundsException, IllegalArgumentException, IllegalStateException {
        checkPair(holder, to);
        return ledger.pass(holder, a, b, to, today);
    }

    public int cash(int holder, int a, int b) throws IndexOutOfBoundsException, IllegalStateException {
        checkHolder(holder);
        checkAlive(holder);
        int done = ledger.pass(holder, a, b, NONE, today);
        return done < 0 ? done : b - a + 1;
    }

    public int died(int holder, int heir)
            throws IndexOutOfBoundsException, IllegalArgumentException, IllegalStateException {
        checkPair(holder, heir);
        int inherited = ledger.inherit(holder, heir, today);
        if (inherited < 0) {
            return inherited;
        }
        holders.get(holder).gone = true;
        for (int i = 0; i < wins.size(); i++) {
            Win one = wins.get(i);
            if (one.holder == holder && one.state == OPEN) {
                one.holder = heir;
            }
        }
        return inherited;
    }

    public int held(int bond, int day) {
        return ledger.holderOn(bond, day);
    }

    public int has(int holder) throws IndexOutOfBoundsException {
        checkHolder(holder);
        return ledger.bondsOf(holder);
    }

    public int line(int k, int what) throws IndexOutOfBoundsException, IllegalArgumentException {
        if (k < 0 || k >= ledger.lines.size()) {
            throw new IndexOutOfBoundsException("no such line");
        }
        if (what < 0 || what >= LINE_FACTS) {
            throw new IllegalArgumentException("no such fact of a line");
        }
        return ledger.lines.get(k).fact(what);
    }

    public int wait(int days) throws IllegalArgumentException {
        if (days < 0 || days > MOST_WAITED || days > LAST_DAY - today) {
            throw new IllegalArgumentException("days are 0 to 10,000, and the day is at most 100,000");
        }
        today += days;
        return today;
    }

    public int feed(int a, int b, int c, int d, int e) {
        if (tapeSize > MOST_TAPE - FEED_BYTES) {
            return NONE;
        }
        putOnTape(a);
        putOnTape(b);
        putOnTape(c);
        putOnTape(d);
        putOnTape(e);
        return tapeSize;
    }

    public int rule(int n, int day) throws IllegalArgumentException, IllegalStateException {
        if (n < 0 || n > tapeSize || day < 0 || day > LAST_DAY) {
            throw new IllegalArgumentException("no such bytes on the tape, or no such day");
        }
        if (rules.size() >= MOST_RULES) {
            throw new IllegalStateException("there are 20 rules");
        }
        Rule told = new Rule(day);
        RuleReader reader = new RuleReader(tape, n);
        reader.readInto(told);
        tapeSize = 0;
        faultPlace = reader.faultPlace;
        if (reader.faultKind != 0) {
            return reader.faultKind - FAULT_LESS;
        }
        rules.add(told);
        return rules.size() - 1;
    }

    public int fault() {
        return faultPlace;
    }

    public int force(int day) {
        int best = NONE;
        int bestFrom = 0;
        for (int i = 0; i < rules.size(); i++) {
            int from = rules.get(i).from;
            if (from <= day && from >= bestFrom) {
                best = i;
                bestFrom = from;
            }
        }
        return best;
    }

    public int noise(int v) {
        if (noiseSize < 0 || noiseSize >= noises.length) {
            return NONE;
        }
        noises[noiseSize] = v;
        noiseSize++;
        return noiseSize;
    }

    public int draw() {
        int ruleNumber = force(today);
        if (ruleNumber < 0 || ruleNumber >= rules.size()) {
            return -1;
        }
        if (noiseSize < LEAST_NOISE) {
            return -2;
        }
        Rule inForce = rules.get(ruleNumber);
        int latestDay = today - inForce.daysNeeded();
        int m = ledger.bondsSince(latestDay);
        if (m < 1) {
            return -3;
        }
        if (draws.size() >= MOST_DRAWS) {
            return -4;
        }
        lapseOldWins();
        Draw made = new Draw(today, ruleNumber, m);
        made.start = mixNoise(START_FACTOR, m);
        made.step = nextWithoutDivisor(1 + mixNoise(STEP_FACTOR, m), m);
        made.fund = inForce.fundFor(ledger.bondsHeld()) + carriedSum;
        made.firstWin = wins.size();
        awardPrizes(made, inForce, latestDay);
        carriedSum = made.left;
        noiseSize = 0;
        draws.add(made);
        return draws.size() - 1;
    }

    public long drawn(int draw, int what) throws IndexOutOfBoundsException, IllegalArgumentException {
        if (draw < 0 || draw >= draws.size()) {
            throw new IndexOutOfBoundsException("no such draw");
        }
        if (what < 0 || what >= DRAW_FACTS) {
            throw new IllegalArgumentException("no such fact of a draw");
        }
        return draws.get(draw).fact(what);
    }

    public int win(int win, int what) throws IndexOutOfBoundsException, IllegalArgumentException {
        checkWin(win);
        if (what < 0 || what >= WIN_FACTS) {
            throw new IllegalArgumentException("no such fact of a win");
        }
        return wins.get(win).fact(what);
    }

    public int claim(int win) throws IndexOutOfBoundsException {
        checkWin(win);
        Win one = wins.get(win);
        if (one.state == CLAIMED) {
            return -1;
        }
        if (one.state == LAPSED || one.isTooOld(today)) {
            return -2;
        }
        one.state = CLAIMED;
        payOut(one.holder, one.prize);
        return one.prize;
    }

    public long paid(int holder) throws IndexOutOfBoundsException {
        checkHolder(holder);
        return holders.get(holder).claimedSum;
    }

    public long carried() {
        return carriedSum;
    }

    public int count(int what) {
        switch (what) {
            case 0: return holders.size();
            case 1: return ledger.sold;
            case 2: return ledger.bondsHeld();
            case 3: return ledger.lines.size();
            case 4: return rules.size();
            case 5: return draws.size();
            case 6: return wins.size();
            case 7: return openWins();
            case 8: return today;
            case 9: return noiseSize;
            case 10: return tapeSize;
            default: return NONE;
        }
    }

    private void checkHolder(int holder) {
        if (holder < 0 || holder >= holders.size()) {
            throw new IndexOutOfBoundsException("no such holder");
        }
    }

    private void checkAlive(int holder) {
        if (holders.get(holder).gone) {
            throw new IllegalStateException("the holder died");
        }
    }

    private void checkPair(int holder, int other) {
        checkHolder(holder);
        checkHolder(other);
        if (holder == other) {
            throw new IllegalArgumentException("both holders are one");
        }
        checkAlive(holder);
        checkAlive(other);
    }

    private void checkWin(int win) {
        if (win < 0 || win >= wins.size()) {
            throw new IndexOutOfBoundsException("no such win");
        }
    }

    private void payOut(int holder, int prize) {
        if (holder >= 0 && holder < holders.size()) {
            holders.get(holder).claimedSum += prize;
        }
    }

    private void putOnTape(int number) {
        for (int shift = 24; shift >= 0; shift -= 8) {
            if (tapeSize >= 0 && tapeSize < tape.length) {
                tape[tapeSize] = (byte) (number >>> shift);
                tapeSize++;
            }
        }
    }

    private int openWins() {
        int open = 0;
        for (int i = 0; i < wins.size(); i++) {
            if (wins.get(i).state == OPEN) {
                open++;
            }
        }
        return open;
    }

    private void lapseOldWins() {
        for (int i = 0; i < wins.size(); i++) {
            Win one = wins.get(i);
            if (one.state == OPEN && one.isTooOld(today)) {
                one.state = LAPSED;
                carriedSum += one.prize;
            }
        }
    }

    private long mixNoise(int factor, int m) {
        // Everything leaves 0 by 1, and nothing is left by 0.
        if (m < 2) {
            return 0;
        }
        long mixed = 0;
        for (int i = 0; i < noiseSize && i < noises.length; i++) {
            long unsigned = noises[i] & 0xFFFFFFFFL;
            mixed = (mixed * factor + unsigned % m) % m;
        }
        return mixed;
    }

    private static long nextWithoutDivisor(long first, int m) {
        long last = m + 1L;
        for (long step = first; step < last; step++) {
            if (greatestDivisor(step, m) == 1) {
                return step;
            }
        }
        return last;
    }

    private static long greatestDivisor(long one, long other) {
        long greater = one;
        long smaller = other;
        // Two rounds at least halve the greater number, so that 128 are more than any long needs.
        for (int round = 0; round < 128 && smaller != 0; round++) {
            long rest = greater % smaller;
            greater = smaller;
            smaller = rest;
        }
        return greater;
    }

    /** The quotient, cut. Days and fund clauses may have a 0 where others have a divisor: no prizes come of it. */
    private static long cutBy(long sum, long by) {
        return by < 1 ? 0 : sum / by;
    }

    private void awardPrizes(Draw made, Rule inForce, int latestDay) {
        made.left = made.fund;
        int most = Math.min(MOST_PRIZES, made.m);
        for (int i = 0; i < inForce.clauses.size(); i++) {
            Clause clause = inForce.clauses.get(i);
            long wanted = clause.prizesFrom(made.fund);
            long affordable = cutBy(made.left, clause.first);
            long many = Math.min(Math.min(wanted, affordable), most - made.winCount);
            for (int k = 0; k < many; k++) {
                awardPrize(made, clause.first, latestDay);
            }
        }
    }

    private void awardPrize(Draw made, int prize, int latestDay) {
        int bond = ledger.bondAt(made.placeOf(made.winCount), latestDay);
        Win one = new Win(draws.size(), today, bond, ledger.holderNow(bond), prize);
        wins.add(one);
        made.winCount++;
        made.left -= prize;
    }

    private static final class Holder {
        private boolean gone = false;
        private long claimedSum = 0;
    }

    private static final class Line {
        private final int first;
        private final int last;
        private final int holder;
        private final int since;
        private int ended = NONE;

        Line(int first, int last, int holder, int since) {
            this.first = first;
            this.last = last;
            this.holder = holder;
            this.since = since;
        }

        int size() {
            return last - first + 1;
        }

        boolean goesOn() {
            return ended == NONE;
        }

        boolean isInForceOn(int day) {
            return since <= day && (ended == NONE || ended > day);
        }

        boolean contains(int bond) {
            return bond >= first && bond <= last;
        }

        /** How many of the bonds a to b the line has. */
        int common(int a, int b) {
            int from = Math.max(first, a);
            int to = Math.min(last, b);
            // Compared first, as the difference of numbers far apart would wrap around.
            return from > to ? 0 : to - from + 1;
        }

        int fact(int what) {
            switch (what) {
                case 0: return first;
                case 1: return last;
                case 2: return holder;
                case 3: return since;
                default: return ended;
            }
        }
    }

    private static final class Ledger {
        /** All lines, in the order in which they came. */
        private final ArrayList<Line> lines = new ArrayList<Line>();
        /** Those that go on, in the order of their bonds, so that a draw need not sort them. */
        private final ArrayList<Line> going = new ArrayList<Line>();
        private int sold = 0;

        int sell(int holder, int n, int day) {
            if (n > MOST_BONDS - sold) {
                return TOO_MANY_BONDS;
            }
            if (lines.size() >= MOST_LINES) {
                return TOO_MANY_LINES;
            }
            int first = sold;
            going.add(begin(first, first + n - 1, holder, day));
            sold += n;
            return first;
        }

        /** Bonds a to b go from a holder to another one, or (to is NONE) to nobody. */
        int pass(int holder, int a, int b, int to, int day) {
            if (!ownsAll(holder, a, b)) {
                return NOT_ALL_OWNED;
            }
            int before = lines.size();
            if (before + linesMadeByPassing(a, b, to) > MOST_LINES) {
                return TOO_MANY_LINES;
            }
            for (int i = 0; i < before; i++) {
                Line one = lines.get(i);
                if (one.goesOn() && one.common(a, b) > 0) {
                    passOne(one, a, b, to, day);
                }
            }
            return 1;
        }

        int inherit(int holder, int heir, int day) {
            int moving = 0;
            for (int i = 0; i < going.size(); i++) {
                if (going.get(i).holder == holder) {
                    moving++;
                }
            }
            int before = lines.size();
            if (before + moving > MOST_LINES) {
                return TOO_MANY_LINES;
            }
            for (int i = 0; i < before; i++) {
                Line one = lines.get(i);
                if (one.goesOn() && one.holder == holder) {
                    passOne(one, one.first, one.last, heir, day);
                }
            }
            return moving;
        }

        int holderOn(int bond, int day) {
            for (int i = 0; i < lines.size(); i++) {
                Line one = lines.get(i);
                if (one.contains(bond) && one.isInForceOn(day)) {
                    return one.holder;
                }
            }
            return NONE;
        }

        int holderNow(int bond) {
            int place = placeAmongGoing(bond);
            if (place >= going.size() || !going.get(place).contains(bond)) {
                return NONE;
            }
            return going.get(place).holder;
        }

        int bondsOf(int holder) {
            int bonds = 0;
            for (int i = 0; i < going.size(); i++) {
                Line one = going.get(i);
                if (one.holder == holder) {
                    bonds += one.size();
                }
            }
            return bonds;
        }

        int bondsHeld() {
            return bondsSince(LAST_DAY);
        }

        /** How many bonds are held now by lines that came on a day or ahead of it. */
        int bondsSince(int latestDay) {
            int bonds = 0;
            for (int i = 0; i < going.size(); i++) {
                Line one = going.get(i);
                if (one.since <= latestDay) {
                    bonds += one.size();
                }
            }
            return bonds;
        }

        /** Of the bonds that bondsSince counts, the one at a place from 0 on. */
        int bondAt(int place, int latestDay) {
            int rest = place;
            for (int i = 0; i < going.size(); i++) {
                Line one = going.get(i);
                if (one.since <= latestDay) {
                    if (rest < one.size()) {
                        return one.first + rest;
                    }
                    rest -= one.size();
                }
            }
            return NONE;
        }

        private Line begin(int first, int last, int holder, int since) {
            Line one = new Line(first, last, holder, since);
            lines.add(one);
            return one;
        }

        private boolean ownsAll(int holder, int a, int b) {
            if (a > b) {
                return false;
            }
            long owned = 0;
            for (int i = 0; i < going.size(); i++) {
                Line one = going.get(i);
                if (one.holder == holder) {
                    owned += one.common(a, b);
                }
            }
            return owned == (long) b - a + 1;
        }

        private int linesMadeByPassing(int a, int b, int to) {
            int made = 0;
            for (int i = 0; i < going.size(); i++) {
                Line one = going.get(i);
                if (one.common(a, b) > 0) {
                    made += one.first < a ? 1 : 0;
                    made += one.last > b ? 1 : 0;
                    made += to != NONE ? 1 : 0;
                }
            }
            return made;
        }

        private void passOne(Line one, int a, int b, int to, int day) {
            one.ended = day;
            Line ahead = one.first < a ? begin(one.first, a - 1, one.holder, one.since) : null;
            Line behind = one.last > b ? begin(b + 1, one.last, one.holder, one.since) : null;
            Line between = to == NONE ? null : begin(Math.max(one.first, a), Math.min(one.last, b), to, day);
            replaceAmongGoing(placeAmongGoing(one.first), ahead, between, behind);
        }

        /** Of the lines that go on, the last one that does not begin behind a bond; 0 if all do. */
        private int placeAmongGoing(int bond) {
            int low = 0;
            int high = going.size() - 1;
            // Each round halves the span, so that 32 are more than any size needs.
            for (int round = 0; round < 32 && low < high; round++) {
                int middle = (low + high + 1) >>> 1;
                if (going.get(middle).first <= bond) {
                    low = middle;
                } else {
                    high = middle - 1;
                }
            }
            return low;
        }

        private void replaceAmongGoing(int place, Line ahead, Line between, Line behind) {
            if (place < 0 || place >= going.size()) {
                return;
            }
            if (behind != null) {
                going.add(place + 1, behind);
            }
            if (between != null) {
                going.set(place, between);
            } else {
                going.remove(place);
            }
            if (ahead != null) {
                going.add(place, ahead);
            }
        }
    }

    /** What a clause begins with, what its numbers may be, and what stands between them. */
    private enum Kind {
        FUND("fund", 0, 1_000_000, "/", 1, MOST_NUMBER),
        DAYS("days", 0, MOST_NUMBER, "", 0, NONE),
        TIER("tier", 1, MOST_NUMBER, "x", 0, MOST_NUMBER),
        SHARE("share", 1, MOST_NUMBER, "", 0, 100);

        private final String word;
        private final int firstLeast;
        private final int firstMost;
        private final String joint;
        private final int secondLeast;
        private final int secondMost;

        Kind(String word, int firstLeast, int firstMost, String joint, int secondLeast, int secondMost) {
            this.word = word;
            this.firstLeast = firstLeast;
            this.firstMost = firstMost;
            this.joint = joint;
            this.secondLeast = secondLeast;
            this.secondMost = secondMost;
        }

        boolean hasSecond() {
            return secondMost != NONE;
        }
    }

    private static final class Clause {
        private final Kind kind;
        private final int first;
        private final int second;

        Clause(Kind kind, int first, int second) {
            this.kind = kind;
            this.first = first;
            this.second = second;
        }

        long fundFor(long bonds) {
            return kind == Kind.FUND ? cutBy(bonds * first, second) : 0;
        }

        /** How many prizes the clause asks for, whatever is left. */
        long prizesFrom(long fund) {
            if (kind == Kind.TIER) {
                return second;
            }
            if (kind == Kind.SHARE) {
                // Hundreds and rest apart: a fund carried through many draws, times 100, is above every long.
                long share = fund / 100 * second + fund % 100 * second / 100;
                return cutBy(share, first);
            }
            return 0;
        }
    }

    private static final class Rule {
        private final int from;
        private final ArrayList<Clause> clauses = new ArrayList<Clause>();

        Rule(int from) {
            this.from = from;
        }

        int daysNeeded() {
            int days = 0;
            for (int i = 0; i < clauses.size(); i++) {
                Clause clause = clauses.get(i);
                if (clause.kind == Kind.DAYS) {
                    days = Math.max(days, clause.first);
                }
            }
            return days;
        }

        long fundFor(long bonds) {
            long sum = 0;
            for (int i = 0; i < clauses.size(); i++) {
                sum += clauses.get(i).fundFor(bonds);
            }
            return sum;
        }
    }

    /** Reads one text from the left; behind the first fault it reads nothing any more. */
    private static final class RuleReader {
        private static final Kind[] KINDS = Kind.values();

        private final byte[] text;
        private final int length;
        private int place = 0;
        private int faultKind = 0;
        private int faultPlace = NONE;

        RuleReader(byte[] text, int length) {
            this.text = text;
            this.length = length;
        }

        void readInto(Rule told) {
            skipBlanks();
            for (int i = 0; i < length && place < length && faultKind == 0; i++) {
                readClause(told);
                skipBlanks();
            }
        }

        private void readClause(Rule told) {
            int start = place;
            Kind kind = readKind();
            if (kind == null) {
                blame(CANT_STAND, start);
                return;
            }
            if (told.clauses.size() >= MOST_CLAUSES) {
                blame(ONE_CLAUSE_MORE, start);
                return;
            }
            int first = readNumber(kind.firstLeast, kind.firstMost);
            int second = 0;
            if (kind.hasSecond()) {
                if (!kind.joint.isEmpty()) {
                    expect(kind.joint);
                }
                second = readNumber(kind.secondLeast, kind.secondMost);
            }
            expect(";");
            if (faultKind == 0) {
                told.clauses.add(new Clause(kind, first, second));
            }
        }

        private Kind readKind() {
            int end = endOfToken(place);
            for (int i = 0; i < KINDS.length; i++) {
                if (isToken(place, end, KINDS[i].word)) {
                    place = end;
                    return KINDS[i];
                }
            }
            return null;
        }

        private int readNumber(int least, int most) {
            if (faultKind != 0) {
                return 0;
            }
            skipBlanks();
            int start = place;
            long value = 0;
            while (place < length && isDigit(byteAt(place))) {
                // Held just above the limit, as the digits may be more than a long has.
                value = Math.min(value * 10 + byteAt(place) - '0', MOST_NUMBER + 1L);
                place++;
            }
            if (place == start) {
                blame(CANT_STAND, start);
                return 0;
            }
            if (value < least || value > most) {
                blame(BAD_NUMBER, start);
                return 0;
            }
            return (int) value;
        }

        private void expect(String token) {
            if (faultKind != 0) {
                return;
            }
            skipBlanks();
            int end = endOfToken(place);
            if (isToken(place, end, token)) {
                place = end;
            } else {
                blame(CANT_STAND, place);
            }
        }

        private void blame(int kind, int where) {
            faultKind = kind;
            faultPlace = where;
        }

        private void skipBlanks() {
            while (place < length && byteAt(place) == ' ') {
                place++;
            }
        }

        /** Behind the small letters that stand at a place; behind one byte, if none does. */
        private int endOfToken(int start) {
            int end = start;
            while (end < length && isLetter(byteAt(end))) {
                end++;
            }
            return end == start && start < length ? start + 1 : end;
        }

        private boolean isToken(int start, int end, String token) {
            if (end - start != token.length()) {
                return false;
            }
            for (int i = 0; i < token.length(); i++) {
                if (byteAt(start + i) != token.charAt(i)) {
                    return false;
                }
            }
            return true;
        }

        private int byteAt(int where) {
            return where >= 0 && where < length && where < text.length ? text[where] : 0;
        }

        private static boolean isDigit(int sign) {
            return sign >= '0' && sign <= '9';
        }

        private static boolean isLetter(int sign) {
            return sign >= 'a' && sign <= 'z';
        }
    }

    private static final class Draw {
        private final int day;
        private final int ruleNumber;
        private final int m;
        private long start = 0;
        private long step = 1;
        private long fund = 0;
        private int winCount = 0;
        private int firstWin = NONE;
        private long left = 0;

        Draw(int day, int ruleNumber, int m) {
            this.day = day;
            this.ruleNumber = ruleNumber;
            this.m = m;
        }

        /** Where among the bonds that may win the k-th one drawn stands. */
        int placeOf(int k) {
            return m < 1 ? 0 : (int) ((start + k * step) % m);
        }

        long fact(int what) {
            switch (what) {
                case 0: return day;
                case 1: return ruleNumber;
                case 2: return m;
                case 3: return start;
                case 4: return step;
                case 5: return fund;
                case 6: return winCount;
                case 7: return winCount == 0 ? NONE : firstWin;
                default: return left;
            }
        }
    }

    private static final class Win {
        private final int drawNumber;
        private final int drawDay;
        private final int bond;
        private int holder;
        private final int prize;
        private int state = OPEN;

        Win(int drawNumber, int drawDay, int bond, int holder, int prize) {
            this.drawNumber = drawNumber;
            this.drawDay = drawDay;
            this.bond = bond;
            this.holder = holder;
            this.prize = prize;
        }

        boolean isTooOld(int day) {
            return day - drawDay > CLAIM_DAYS;
        }

        int fact(int what) {
            switch (what) {
                case 0: return drawNumber;
                case 1: return bond;
                case 2: return holder;
                case 3: return prize;
                default: return state;
            }
        }
    }
}
