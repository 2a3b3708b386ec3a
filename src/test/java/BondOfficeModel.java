import java.math.BigInteger;
import java.nio.charset.StandardCharsets;
import java.util.ArrayList;
import java.util.List;
import java.util.Random;
import java.util.TreeMap;
import java.util.regex.Matcher;
import java.util.regex.Pattern;

/** Runs of calls from told seeds: every answer is compared with that of a slow model of another build. */
public final class BondOfficeModel {
    private static final int RUNS = 600;
    private static final int CALLS = 512;
    private static final int MOST_SHOWN = 20;

    private static int wrong = 0;

    private interface Call {
        long answer();
    }

    public static void main(String[] args) {
        TreeMap<String, Integer> seen = new TreeMap<>();
        for (int seed = 0; seed < RUNS; seed++) {
            new Run(seed, seen).go();
        }
        mustHaveSeen(seen, "buy -2", "give -2", "cash -2", "died -2", "give -1", "cash -1", "draw -1", "draw -2",
                "draw -3", "draw -4", "rule -9", "rule -8", "rule -7", "claim -1", "claim -2", "feed -1", "noise -1",
                "rule throws.IllegalStateException", "holder throws.IllegalStateException");
        System.out.println(wrong == 0 ? "all answers are the model's" : wrong + " answers are not the model's");
        if (wrong != 0) {
            System.exit(1);
        }
    }

    /** Runs that never meet an edge would prove nothing about it. */
    private static void mustHaveSeen(TreeMap<String, Integer> seen, String... answers) {
        for (String answer : answers) {
            if (!seen.containsKey(answer)) {
                wrong++;
                System.out.println("no run had the answer " + answer);
            }
        }
    }

    private static String outcome(Call call) {
        try {
            return Long.toString(call.answer());
        } catch (RuntimeException e) {
            return "throws." + e.getClass().getSimpleName();
        }
    }

    private static final class Run {
        private final int seed;
        private final Random random;
        private final TreeMap<String, Integer> seen;
        private final BondOffice office = new BondOffice();
        private final Model model = new Model();
        private final int mode;
        private int calls = 0;
        private boolean same = true;

        Run(int seed, TreeMap<String, Integer> seen) {
            this.seed = seed;
            this.random = new Random(seed);
            this.seen = seen;
            this.mode = seed % 5;
        }

        void go() {
            int holders = mode == 4 ? 61 : 2 + random.nextInt(6);
            for (int i = 0; i < holders; i++) {
                compare("holder", "holder()", office::holder, model::holder);
            }
            if (mode == 1) {
                fillLines();
            }
            while (calls < CALLS && same) {
                step();
            }
            compareAll();
        }

        private void compare(String name, String text, Call real, Call due) {
            calls++;
            if (!same) {
                return;
            }
            String got = outcome(real);
            String want = outcome(due);
            seen.merge(name + " " + want, 1, Integer::sum);
            if (!got.equals(want)) {
                same = false;
                wrong++;
                if (wrong <= MOST_SHOWN) {
                    System.out.println("seed " + seed + " call " + calls + ": " + text + " answered " + got
                            + ", due is " + want);
                }
            }
        }

        private void step() {
            int kind = random.nextInt(100);
            if (mode == 2 && random.nextInt(10) < 5) {
                drawNow();
            } else if (kind < 34) {
                bonds(kind);
            } else if (kind < 50) {
                tell();
            } else if (kind < 62) {
                drawNow();
            } else if (kind < 70) {
                int days = pick(0, 1, 2, 3, 30, 250, 499, 500, 501, 9_999, -1, 10_001);
                compare("wait", "wait(" + days + ")", () -> office.wait(days), () -> model.wait(days));
            } else if (kind < 78) {
                int win = near(model.wins.size());
                compare("claim", "claim(" + win + ")", () -> office.claim(win), () -> model.claim(win));
            } else {
                ask(random.nextInt(10));
            }
        }

        private int pick(int... numbers) {
            return numbers[random.nextInt(numbers.length)];
        }

        /** Mostly 0 to size - 1, at times just outside. */
        private int near(int size) {
            return random.nextInt(30) == 0 ? pick(-1, size, Integer.MAX_VALUE, Integer.MIN_VALUE)
                    : random.nextInt(size + 1);
        }

        private int someHolder() {
            return random.nextInt(25) == 0 ? pick(-1, model.holders) : random.nextInt(model.holders);
        }

        private void bonds(int kind) {
            int holder = someHolder();
            int other = someHolder();
            if (kind < 12) {
                int n = random.nextInt(20) == 0 ? pick(0, -1, 10_000_001) : 1 + random.nextInt(20);
                compare("buy", "buy(" + holder + ", " + n + ")", () -> office.buy(holder, n),
                        () -> model.buy(holder, n));
            } else if (kind < 33) {
                passSome(kind < 25, other);
            } else if (random.nextInt(4) == 0) {
                compare("died", "died(" + holder + ", " + other + ")", () -> office.died(holder, other),
                        () -> model.died(holder, other));
            }
        }

        private void passSome(boolean give, int to) {
            int a = near(model.sold);
            int b = random.nextInt(20) == 0 ? near(model.sold) : a + random.nextInt(8);
            int owner = a >= 0 && a < model.sold ? model.now.get(a) : -1;
            int from = owner >= 0 && random.nextInt(10) > 0 ? owner : someHolder();
            passSpan(give, from, a, b, to);
        }

        private void passSpan(boolean give, int from, int a, int b, int to) {
            String span = "(" + from + ", " + a + ", " + b;
            if (give) {
                compare("give", "give" + span + ", " + to + ")", () -> office.give(from, a, b, to),
                        () -> model.give(from, a, b, to));
            } else {
                compare("cash", "cash" + span + ")", () -> office.cash(from, a, b), () -> model.cash(from, a, b));
            }
        }

        /** Many small lines given to and fro, so that the steps behind them meet the limit of lines. */
        private void fillLines() {
            for (int i = 0; i < 100; i++) {
                int n = 1 + random.nextInt(3);
                compare("buy", "buy(0, " + n + ")", () -> office.buy(0, n), () -> model.buy(0, n));
            }
            int owner = 0;
            for (int i = 0; i < 13; i++) {
                passSpan(true, owner, 0, model.sold - 1, 1 - owner);
                owner = 1 - owner;
            }
            passSpan(true, owner, 0, random.nextInt(model.sold), 1 - owner);
        }

        private void drawNow() {
            int many = random.nextInt(12) == 0 ? pick(0, 1, 20, 21) : pick(2, 3);
            for (int i = 0; i < many; i++) {
                int v = random.nextInt(3) == 0 ? random.nextInt(20) : random.nextInt();
                compare("noise", "noise(" + v + ")", () -> office.noise(v), () -> model.noise(v));
            }
            compare("draw", "draw()", office::draw, model::draw);
            compare("carried", "carried()", office::carried, model::carried);
        }

        private void tell() {
            String text = random.nextInt(12) == 0 ? "days1;".repeat(9 + random.nextInt(4)) : someText();
            byte[] bytes = text.getBytes(StandardCharsets.ISO_8859_1);
            int length = Math.min(bytes.length, 400);
            for (int at = 0; at < length; at += 20) {
                int[] w = new int[5];
                for (int i = 0; i < 20; i++) {
                    w[i / 4] = w[i / 4] << 8 | (at + i < bytes.length ? bytes[at + i] & 255 : 0);
                }
                compare("feed", "feed", () -> office.feed(w[0], w[1], w[2], w[3], w[4]),
                        () -> model.feed(w[0], w[1], w[2], w[3], w[4]));
            }
            int n = random.nextInt(15) == 0 ? pick(-1, model.tape.length() + 1, length / 2) : length;
            int day = random.nextInt(4) > 0 ? pick(0, model.day, model.day + 3)
                    : pick(-1, 100_000, 100_001, model.day + 1);
            if (random.nextInt(20) > 0) {
                compare("rule", "rule '" + text + "' " + n + ", " + day, () -> office.rule(n, day),
                        () -> model.rule(n, day));
            }
            compare("fault", "fault()", office::fault, model::fault);
        }

        private String someText() {
            StringBuilder text = new StringBuilder();
            int many = random.nextInt(6);
            for (int i = 0; i < many; i++) {
                text.append(someClause());
                text.append(random.nextInt(40) == 0 ? pick2(" ", ";;", "/") : ";");
            }
            if (random.nextInt(8) == 0 && text.length() > 0) {
                int at = random.nextInt(text.length());
                text.setCharAt(at, (char) pick(' ', ';', 'x', '0', '9', '/', 'A', 0, 255, 'z', '{', '`', ':'));
            }
            if (random.nextInt(15) == 0) {
                text.setLength(random.nextInt(text.length() + 1));
            }
            return text.toString();
        }

        private String someClause() {
            switch (random.nextInt(4)) {
                case 0: return "fund" + gap() + number(0, 9) + gap() + "/" + gap() + number(1, 5) + gap();
                case 1: return gap() + "days" + gap() + number(0, 5) + gap();
                case 2: return gap() + "tier" + gap() + number(1, 30) + gap() + "x" + gap() + number(0, 8);
                default: return "share" + gap() + number(1, 9) + pick2(" ", "  ", " ") + number(0, 101) + gap();
            }
        }

        private String pick2(String... texts) {
            return texts[random.nextInt(texts.length)];
        }

        private String gap() {
            return random.nextInt(4) == 0 ? " " : "";
        }

        private String number(int least, int span) {
            if (random.nextInt(40) == 0) {
                return pick2("0", "1000000", "1000001", "1000000000", "1000000001", "99999999999999999999", "0000");
            }
            return Integer.toString(least + random.nextInt(span));
        }

        private void ask(int kind) {
            int what = random.nextInt(10) == 0 ? pick(-1, 5, 9, 11) : random.nextInt(5);
            int day = random.nextInt(10) == 0 ? pick(-1, Integer.MAX_VALUE) : random.nextInt(model.day + 2);
            int bond = near(model.sold);
            int holder = someHolder();
            int line = near(model.lines.size());
            int win = near(model.wins.size());
            switch (kind) {
                case 0: case 1: case 2:
                    compare("held", "held(" + bond + ", " + day + ")", () -> office.held(bond, day),
                            () -> model.held(bond, day));
                    break;
                case 3: compare("has", "has(" + holder + ")", () -> office.has(holder), () -> model.has(holder)); break;
                case 4: compare("paid", "paid(" + holder + ")", () -> office.paid(holder), () -> model.paid(holder)); break;
                case 5: case 6:
                    compare("line", "line(" + line + ", " + what + ")", () -> office.line(line, what),
                            () -> model.line(line, what));
                    break;
                case 7: case 8:
                    compare("win", "win(" + win + ", " + what + ")", () -> office.win(win, what),
                            () -> model.win(win, what));
                    break;
                default: compare("force", "force(" + day + ")", () -> office.force(day), () -> model.force(day));
            }
        }

        /** Beyond an object's 512 calls answers are free, but the class has no reason to change them. */
        private void compareAll() {
            for (int what = -1; what <= 11; what++) {
                int w = what;
                compare("count", "count(" + w + ")", () -> office.count(w), () -> model.count(w));
            }
            for (int i = 0; i <= model.draws.size(); i++) {
                for (int what = -1; what <= 9; what++) {
                    int d = i;
                    int w = what;
                    compare("drawn", "drawn(" + d + ", " + w + ")", () -> office.drawn(d, w), () -> model.drawn(d, w));
                }
            }
            for (int i = 0; i < Math.max(model.lines.size(), model.wins.size()) + 1; i++) {
                for (int what = -1; what <= 5; what++) {
                    int k = i;
                    int w = what;
                    compare("line", "line(" + k + ", " + w + ")", () -> office.line(k, w), () -> model.line(k, w));
                    compare("win", "win(" + k + ", " + w + ")", () -> office.win(k, w), () -> model.win(k, w));
                }
            }
            for (int i = 0; i <= model.sold; i++) {
                int bond = i;
                int day = model.day - random.nextInt(4);
                compare("held", "held(" + bond + ", " + day + ")", () -> office.held(bond, day),
                        () -> model.held(bond, day));
            }
            for (int i = 0; i <= model.holders; i++) {
                int h = i;
                compare("has", "has(" + h + ")", () -> office.has(h), () -> model.has(h));
                compare("paid", "paid(" + h + ")", () -> office.paid(h), () -> model.paid(h));
            }
        }
    }

    /** Keeps for each bond by itself who has it, since when its line came, and who had it from which day on. */
    private static final class Model {
        private static final Pattern TOKEN = Pattern.compile("[a-z]+|[0-9]+|[^ ]", Pattern.DOTALL);
        private static final String[][] SHAPES = {
            {"fund", "0 1000000", "/", "1 1000000000", ";"},
            {"days", "0 1000000000", ";"},
            {"tier", "1 1000000000", "x", "0 1000000000", ";"},
            {"share", "1 1000000000", "0 100", ";"},
        };

        private int day = 0;
        private int holders = 0;
        private int sold = 0;
        private final List<Integer> dead = new ArrayList<>();
        private final long[] paid = new long[60];
        private final List<int[]> lines = new ArrayList<>();
        private final List<Integer> now = new ArrayList<>();
        private final List<Integer> since = new ArrayList<>();
        private final List<TreeMap<Integer, Integer>> history = new ArrayList<>();
        private String tape = "";
        private int faultPlace = -1;
        private final List<List<String[]>> rules = new ArrayList<>();
        private final List<Integer> ruleDays = new ArrayList<>();
        private final List<Integer> noises = new ArrayList<>();
        private final List<long[]> draws = new ArrayList<>();
        private final List<int[]> wins = new ArrayList<>();
        private BigInteger left = BigInteger.ZERO;

        long holder() {
            if (holders == 60) {
                throw new IllegalStateException();
            }
            return holders++;
        }

        private void mustBe(int... some) {
            for (int one : some) {
                if (one < 0 || one >= holders) {
                    throw new IndexOutOfBoundsException();
                }
            }
        }

        private void mustLive(int... some) {
            for (int one : some) {
                if (dead.contains(one)) {
                    throw new IllegalStateException();
                }
            }
        }

        private void argument(boolean fine) {
            if (!fine) {
                throw new IllegalArgumentException();
            }
        }

        private void comes(int first, int last, int holder, int sinceDay) {
            lines.add(new int[] {first, last, holder, sinceDay, -1});
            for (int bond = first; bond <= last; bond++) {
                now.set(bond, holder);
                since.set(bond, sinceDay);
                history.get(bond).put(sinceDay, holder);
            }
        }

        long buy(int holder, int n) {
            mustBe(holder);
            argument(n >= 1 && n <= 10_000_000);
            mustLive(holder);
            if (lines.size() == 1_500) {
                return -2;
            }
            int first = sold;
            for (int i = 0; i < n; i++) {
                now.add(-1);
                since.add(-1);
                history.add(new TreeMap<>());
            }
            sold += n;
            comes(first, sold - 1, holder, day);
            return first;
        }

        long give(int holder, int a, int b, int to) {
            mustBe(holder, to);
            argument(holder != to);
            mustLive(holder, to);
            return pass(holder, a, b, to);
        }

        long cash(int holder, int a, int b) {
            mustBe(holder);
            mustLive(holder);
            long done = pass(holder, a, b, -1);
            return done == 1 ? b - a + 1 : done;
        }

        private long pass(int holder, int a, int b, int to) {
            if (a > b || a < 0 || b >= sold) {
                return -1;
            }
            for (int bond = a; bond <= b; bond++) {
                if (now.get(bond) != holder) {
                    return -1;
                }
            }
            List<int[]> fresh = new ArrayList<>();
            List<int[]> ending = new ArrayList<>();
            for (int[] one : lines) {
                if (one[4] == -1 && one[0] <= b && one[1] >= a) {
                    ending.add(one);
                    addSpan(fresh, one[0], a - 1, one[2], one[3]);
                    addSpan(fresh, b + 1, one[1], one[2], one[3]);
                    if (to >= 0) {
                        addSpan(fresh, Math.max(a, one[0]), Math.min(b, one[1]), to, day);
                    }
                }
            }
            return change(ending, fresh) ? 1 : -2;
        }

        private static void addSpan(List<int[]> fresh, int first, int last, int holder, int sinceDay) {
            if (first <= last) {
                fresh.add(new int[] {first, last, holder, sinceDay});
            }
        }

        private boolean change(List<int[]> ending, List<int[]> fresh) {
            if (lines.size() + fresh.size() > 1_500) {
                return false;
            }
            for (int[] one : ending) {
                one[4] = day;
                for (int bond = one[0]; bond <= one[1]; bond++) {
                    now.set(bond, -1);
                    history.get(bond).put(day, -1);
                }
            }
            for (int[] one : fresh) {
                lines.add(new int[] {one[0], one[1], one[2], one[3], -1});
                for (int bond = one[0]; bond <= one[1]; bond++) {
                    now.set(bond, one[2]);
                    since.set(bond, one[3]);
                    history.get(bond).put(day, one[2]);
                }
            }
            return true;
        }

        long died(int holder, int heir) {
            mustBe(holder, heir);
            argument(holder != heir);
            mustLive(holder, heir);
            List<int[]> fresh = new ArrayList<>();
            List<int[]> ending = new ArrayList<>();
            for (int[] one : lines) {
                if (one[4] == -1 && one[2] == holder) {
                    ending.add(one);
                    addSpan(fresh, one[0], one[1], heir, day);
                }
            }
            if (!change(ending, fresh)) {
                return -2;
            }
            dead.add(holder);
            for (int[] one : wins) {
                if (one[2] == holder && one[4] == 0) {
                    one[2] = heir;
                }
            }
            return fresh.size();
        }

        long held(int bond, int onDay) {
            if (bond < 0 || bond >= sold || history.get(bond).floorKey(onDay) == null) {
                return -1;
            }
            return history.get(bond).floorEntry(onDay).getValue();
        }

        long has(int holder) {
            mustBe(holder);
            return now.stream().filter(h -> h == holder).count();
        }

        long line(int k, int what) {
            if (k < 0 || k >= lines.size()) {
                throw new IndexOutOfBoundsException();
            }
            argument(what >= 0 && what <= 4);
            return lines.get(k)[what];
        }

        long wait(int days) {
            argument(days >= 0 && days <= 10_000 && day + days <= 100_000);
            day += days;
            return day;
        }

        long feed(int... numbers) {
            if (tape.length() > 380) {
                return -1;
            }
            for (int number : numbers) {
                tape += "" + (char) (number >> 24 & 255) + (char) (number >> 16 & 255) + (char) (number >> 8 & 255)
                        + (char) (number & 255);
            }
            return tape.length();
        }

        long rule(int n, int from) {
            argument(n >= 0 && n <= tape.length() && from >= 0 && from <= 100_000);
            if (rules.size() == 20) {
                throw new IllegalStateException();
            }
            String text = tape.substring(0, n);
            tape = "";
            List<String[]> clauses = new ArrayList<>();
            int fault = read(text, clauses);
            if (fault > 0) {
                return fault - 10;
            }
            faultPlace = -1;
            rules.add(clauses);
            ruleDays.add(from);
            return rules.size() - 1;
        }

        private int read(String text, List<String[]> clauses) {
            Matcher tokens = TOKEN.matcher(text);
            String[] shape = null;
            int part = 0;
            while (tokens.find()) {
                faultPlace = tokens.start();
                String token = tokens.group();
                if (shape == null) {
                    for (String[] one : SHAPES) {
                        shape = one[0].equals(token) ? one : shape;
                    }
                    if (shape == null || clauses.size() == 10) {
                        return shape == null ? 1 : 3;
                    }
                    clauses.add(new String[] {token, null, null});
                    part = 1;
                    continue;
                }
                int fault = faultOf(shape[part], token);
                if (fault > 0) {
                    return fault;
                }
                if (Character.isDigit(token.charAt(0))) {
                    String[] last = clauses.get(clauses.size() - 1);
                    last[last[1] == null ? 1 : 2] = token;
                }
                part++;
                shape = part == shape.length ? null : shape;
            }
            faultPlace = text.length();
            return shape == null ? 0 : 1;
        }

        private static int faultOf(String wanted, String token) {
            if (!wanted.contains(" ")) {
                return token.equals(wanted) ? 0 : 1;
            }
            if (token.charAt(0) < '0' || token.charAt(0) > '9') {
                return 1;
            }
            String[] bounds = wanted.split(" ");
            BigInteger value = new BigInteger(token);
            return value.compareTo(new BigInteger(bounds[0])) >= 0 && value.compareTo(new BigInteger(bounds[1])) <= 0
                    ? 0 : 2;
        }

        long fault() {
            return faultPlace;
        }

        long force(int onDay) {
            for (int from = Math.min(onDay, 100_000); from >= 0; from--) {
                int last = ruleDays.lastIndexOf(from);
                if (last >= 0) {
                    return last;
                }
            }
            return -1;
        }

        long noise(int v) {
            if (noises.size() == 20) {
                return -1;
            }
            noises.add(v);
            return noises.size();
        }

        long draw() {
            int inForce = (int) force(day);
            if (inForce < 0) {
                return -1;
            }
            if (noises.size() < 2) {
                return -2;
            }
            List<String[]> clauses = rules.get(inForce);
            long days = clauses.stream().filter(c -> c[0].equals("days")).mapToLong(c -> Long.parseLong(c[1])).max()
                    .orElse(0);
            List<Integer> able = new ArrayList<>();
            for (int bond = 0; bond < sold; bond++) {
                if (now.get(bond) >= 0 && since.get(bond) + days <= day) {
                    able.add(bond);
                }
            }
            if (able.isEmpty()) {
                return -3;
            }
            if (draws.size() == 40) {
                return -4;
            }
            lapse();
            int m = able.size();
            long start = mix(31, m);
            long step = 1 + mix(37, m);
            while (!BigInteger.valueOf(step).gcd(BigInteger.valueOf(m)).equals(BigInteger.ONE)) {
                step++;
            }
            noises.clear();
            BigInteger fund = left;
            for (String[] c : clauses) {
                if (c[0].equals("fund")) {
                    fund = fund.add(BigInteger.valueOf(count(2)).multiply(new BigInteger(c[1]))
                            .divide(new BigInteger(c[2])));
                }
            }
            int first = wins.size();
            List<Integer> prizes = prizes(clauses, fund, m);
            for (int k = 0; k < prizes.size(); k++) {
                int bond = able.get((int) ((start + k * step) % m));
                wins.add(new int[] {draws.size(), bond, now.get(bond), prizes.get(k), 0});
            }
            draws.add(new long[] {day, inForce, m, start, step, fund.longValueExact(), prizes.size(),
                prizes.isEmpty() ? -1 : first, left.longValueExact()});
            return draws.size() - 1;
        }

        private void lapse() {
            for (int[] one : wins) {
                if (one[4] == 0 && day - draws.get(one[0])[0] > 500) {
                    one[4] = 2;
                    left = left.add(BigInteger.valueOf(one[3]));
                }
            }
        }

        private long mix(int factor, int m) {
            BigInteger by = BigInteger.valueOf(m);
            BigInteger mixed = BigInteger.ZERO;
            for (int v : noises) {
                mixed = mixed.multiply(BigInteger.valueOf(factor))
                        .add(BigInteger.valueOf(Integer.toUnsignedLong(v)).mod(by)).mod(by);
            }
            return mixed.longValueExact();
        }

        /** One prize behind another, as long as there is one to give; what is left is carried. */
        private List<Integer> prizes(List<String[]> clauses, BigInteger fund, int m) {
            List<Integer> prizes = new ArrayList<>();
            left = fund;
            for (String[] c : clauses) {
                BigInteger wanted = BigInteger.ZERO;
                if (c[0].equals("tier")) {
                    wanted = new BigInteger(c[2]);
                } else if (c[0].equals("share")) {
                    wanted = fund.multiply(new BigInteger(c[2])).divide(BigInteger.valueOf(100))
                            .divide(new BigInteger(c[1]));
                }
                BigInteger prize = new BigInteger(c[1]);
                while (wanted.signum() > 0 && left.compareTo(prize) >= 0 && prizes.size() < Math.min(50, m)) {
                    prizes.add(prize.intValueExact());
                    left = left.subtract(prize);
                    wanted = wanted.subtract(BigInteger.ONE);
                }
            }
            return prizes;
        }

        long drawn(int draw, int what) {
            if (draw < 0 || draw >= draws.size()) {
                throw new IndexOutOfBoundsException();
            }
            argument(what >= 0 && what <= 8);
            return draws.get(draw)[what];
        }

        long win(int win, int what) {
            if (win < 0 || win >= wins.size()) {
                throw new IndexOutOfBoundsException();
            }
            argument(what >= 0 && what <= 4);
            return wins.get(win)[what];
        }

        long claim(int win) {
            int[] one = win < 0 || win >= wins.size() ? null : wins.get(win);
            if (one == null) {
                throw new IndexOutOfBoundsException();
            }
            if (one[4] == 1) {
                return -1;
            }
            if (one[4] == 2 || day - draws.get(one[0])[0] > 500) {
                return -2;
            }
            one[4] = 1;
            paid[one[2]] += one[3];
            return one[3];
        }

        long paid(int holder) {
            mustBe(holder);
            return paid[holder];
        }

        long carried() {
            return left.longValueExact();
        }

        long count(int what) {
            switch (what) {
                case 0: return holders;
                case 1: return sold;
                case 2: return now.stream().filter(h -> h >= 0).count();
                case 3: return lines.size();
                case 4: return rules.size();
                case 5: return draws.size();
                case 6: return wins.size();
                case 7: return wins.stream().filter(w -> w[4] == 0).count();
                case 8: return day;
                case 9: return noises.size();
                case 10: return tape.length();
                default: return -1;
            }
        }
    }
}
