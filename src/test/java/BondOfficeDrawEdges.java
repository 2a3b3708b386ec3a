import java.util.TreeSet;

/**
 * Promises 15 to 22 and the terms that they speak of: each sentence that names an edge has a test of its own, with
 * the last input on its one side and the first on its other. No object has more than 512 calls, as later ones are free.
 */
public final class BondOfficeDrawEdges extends OfficeTest {
    public static void main(String[] args) {
        noise();
        refusals();
        mayWin();
        mixing();
        funds();
        prizes();
        askingOfDraws();
        askingOfWins();
        claims();
        sums();
        counts();
        end();
    }

    private static void noise() {
        edge("15: NONE, doing nothing: there are 20", BondOfficeDrawEdges::noise21);
        edge("15: any number", BondOfficeDrawEdges::noiseOfAnyNumber);
        edge("16: NOISE is empty then", BondOfficeDrawEdges::drawEmptiesNoise);
    }

    private static void refusals() {
        edge("16: -1 no RULE is in force", BondOfficeDrawEdges::drawWithoutRule);
        edge("16: the RULE in force today", BondOfficeDrawEdges::drawByTheRuleOfToday);
        edge("16: -2 NOISE has fewer than two numbers", BondOfficeDrawEdges::drawWithoutNoise);
        edge("16: -3 no BOND may win", BondOfficeDrawEdges::drawWithoutBonds);
        edge("16: -4 there are 40", BondOfficeDrawEdges::draw41);
        edge("16: the first of these", BondOfficeDrawEdges::drawRefusalsInOrder);
        edge("16: and nothing changes", BondOfficeDrawEdges::drawRefusedKeepsOldWins);
    }

    private static void mayWin() {
        edge("DRAW: whose LINE came DAYS ago or ahead", BondOfficeDrawEdges::daysAgo);
        edge("DAYS: the greatest of the RULE", BondOfficeDrawEdges::greatestDays);
        edge("DAYS: 0 without", BondOfficeDrawEdges::noDays);
        edge("DAYS: so many that none is old enough", BondOfficeDrawEdges::farDays);
        edge("DRAW: what goes on when some are given is as old as it was", BondOfficeDrawEdges::remaindersStayOld);
        edge("DRAW: what is given or inherited is new", BondOfficeDrawEdges::givenOnesAreNew);
        edge("DRAW: BONDS that are HELD now", BondOfficeDrawEdges::heldNow);
        edge("DRAW: in order of their numbers, from 0 on", BondOfficeDrawEdges::orderOfNumbers);
        edge("DRAW: M is 1", BondOfficeDrawEdges::oneBond);
        edge("DRAW: M is 1,000,000,000", BondOfficeDrawEdges::allBonds);
    }

    private static void mixing() {
        edge("MIX: what the number leaves by M", BondOfficeDrawEdges::mixAroundM);
        edge("MIX: without sign", BondOfficeDrawEdges::mixWithoutSign);
        edge("MIX: of two numbers, and of 20", BondOfficeDrawEdges::mixOfFewAndMany);
        edge("STEP: a divisor above 1 in common with M", BondOfficeDrawEdges::stepWithoutDivisor);
        edge("STEP: M and 1", BondOfficeDrawEdges::stepBehindM);
        edge("DRAWN: each what is left by M", BondOfficeDrawEdges::drawnGoAround);
        edge("DRAWN: each BOND once", BondOfficeDrawEdges::drawnOnce);
        edge("each number that may win is drawn by as many noises", BondOfficeDrawEdges::drawnByAsManyNoises);
    }

    private static void funds() {
        edge("FUND: times p, by q, cut", BondOfficeDrawEdges::fundCut);
        edge("FUND: for each fund", BondOfficeDrawEdges::fundOfManyClauses);
        edge("FUND: without a fund", BondOfficeDrawEdges::fundWithout);
        edge("FUND: BONDS that are HELD now", BondOfficeDrawEdges::fundOfHeldOnes);
        edge("FUND: p and q at their ends", BondOfficeDrawEdges::fundAtTheEnds);
        edge("FUND: and what is CARRIED", BondOfficeDrawEdges::fundWithCarried);
        edge("FUND: so great that times 100 is above every long", BondOfficeDrawEdges::fundAboveLongs);
        edge("WINS of more than 500 DAYS ago lapse", BondOfficeDrawEdges::lapseAfter500);
        edge("WINS lapse that are neither claimed nor lapsed", BondOfficeDrawEdges::lapseOnce);
        edge("WINS lapse first of all", BondOfficeDrawEdges::lapseFirst);
    }

    private static void prizes() {
        edge("PRIZES: tier, n of a", BondOfficeDrawEdges::tierMany);
        edge("PRIZES: as many at most as what is left has", BondOfficeDrawEdges::tierOfWhatIsLeft);
        edge("PRIZES: share, times p, by 100, cut", BondOfficeDrawEdges::shareCut);
        edge("PRIZES: share of the FUND, not of what is left", BondOfficeDrawEdges::shareOfTheWhole);
        edge("PRIZES: share of 0 and of 100", BondOfficeDrawEdges::shareAtTheEnds);
        edge("PRIZES: 50 in all at most", BondOfficeDrawEdges::fiftyInAll);
        edge("PRIZES: and M", BondOfficeDrawEdges::asManyAsMayWin);
        edge("PRIZES: CLAUSE by CLAUSE", BondOfficeDrawEdges::clauseByClause);
        edge("PRIZES: a CLAUSE that has none does not end it", BondOfficeDrawEdges::tooDearIsPassedOver);
        edge("PRIZES: a WIN of the HOLDER", BondOfficeDrawEdges::winOfTheHolder);
        edge("WINS are numbered from 0 on in all", BondOfficeDrawEdges::winNumbers);
        edge("WINS: 40 DRAWS of 50", BondOfficeDrawEdges::allWins);
    }

    private static void askingOfDraws() {
        edge("17: no such DRAW", BondOfficeDrawEdges::drawnNoSuchDraw);
        edge("17: another what", BondOfficeDrawEdges::drawnAnotherWhat);
        edge("17: the first WIN (NONE without)", BondOfficeDrawEdges::drawnWithoutWins);
        edge("17: what was CARRIED from it", BondOfficeDrawEdges::drawnStays);
    }

    private static void askingOfWins() {
        edge("18: no such WIN", BondOfficeDrawEdges::winNoSuchWin);
        edge("18: another what", BondOfficeDrawEdges::winAnotherWhat);
        edge("18: 0 open, 1 claimed, 2 lapsed", BondOfficeDrawEdges::winStates);
    }

    private static void claims() {
        edge("19: no such WIN", BondOfficeDrawEdges::claimNoSuchWin);
        edge("19: -1: it was", BondOfficeDrawEdges::claimTwice);
        edge("19: -2: more than 500 DAYS ago", BondOfficeDrawEdges::claimAfter500);
        edge("19: -2: it lapsed", BondOfficeDrawEdges::claimLapsed);
        edge("19: -1 ahead of -2", BondOfficeDrawEdges::claimRefusalsInOrder);
        edge("19: the PRIZE, from the least to the greatest", BondOfficeDrawEdges::claimLeastAndGreatest);
    }

    private static void sums() {
        edge("20: no such HOLDER", BondOfficeDrawEdges::paidNoSuchHolder);
        edge("20: what a HOLDER claimed in all", BondOfficeDrawEdges::paidInAll);
        edge("20: above every int", BondOfficeDrawEdges::paidAboveInts);
        edge("21: what is CARRIED, from 0 on", BondOfficeDrawEdges::carriedFromZero);
        edge("21: by DRAWS alone", BondOfficeDrawEdges::carriedByDrawsAlone);
    }

    private static void counts() {
        edge("22: NONE for others", BondOfficeDrawEdges::countOthers);
        edge("22: each when it is greatest, all at once", BondOfficeDrawEdges::countGreatest);
        edge("22: open WINS", BondOfficeDrawEdges::countOpen);
    }

    /** Draws with two noises of which the first is 0, so that START is what the second leaves by M. */
    private static int drawWith(BondOffice x, int second) {
        noises(x, 0, second);
        return x.draw();
    }

    private static void noise21() {
        BondOffice x = new BondOffice();
        for (int i = 1; i <= 20; i++) {
            due("noise", x.noise(i), i);
        }
        keeps(x, "a 21st", NONE, () -> x.noise(21));
        due("numbers", x.count(9), 20);
    }

    private static void noiseOfAnyNumber() {
        BondOffice x = new BondOffice();
        int[] numbers = {0, -1, MIN, MAX, 1};
        for (int i = 0; i < numbers.length; i++) {
            due("noise " + numbers[i], x.noise(numbers[i]), i + 1);
        }
    }

    private static void drawEmptiesNoise() {
        BondOffice x = withBonds(10, "");
        for (int i = 0; i < 20; i++) {
            x.noise(i);
        }
        due("draw", x.draw(), 0);
        due("numbers", x.count(9), 0);
        due("the first one again", x.noise(5), 1);
        keeps(x, "one is too few", -2, x::draw);
        due("the second one", x.noise(5), 2);
        due("draw", x.draw(), 1);
        due("the old ones do not count", x.drawn(1, 3), (5 * 31 + 5) % 10);
    }

    private static void drawWithoutRule() {
        BondOffice x = withHolders(1);
        x.buy(0, 5);
        noises(x, 1, 2);
        keeps(x, "no rule at all", -1, x::draw);
        tell(x, "what;", 0);
        keeps(x, "a text with a fault", -1, x::draw);
        x.rule(0, 3);
        x.wait(2);
        keeps(x, "a day ahead of the rule", -1, x::draw);
        x.wait(1);
        due("that day", x.draw(), 0);
        due("rule", x.drawn(0, 1), 0);
    }

    private static void drawByTheRuleOfToday() {
        BondOffice x = withBonds(5, "fund 1/1;");
        tell(x, "fund 2/1;", 2);
        tell(x, "fund 3/1;", 2);
        tell(x, "fund 4/1;", 1);
        int[] rules = {0, 3, 2, 2};
        for (int day = 0; day < rules.length; day++) {
            due("draw", drawInOrder(x), day);
            due("day", x.drawn(day, 0), day);
            due("rule of day " + day, x.drawn(day, 1), rules[day]);
            x.wait(1);
        }
        due("funds: 5, 20, 15 and 15", x.carried(), 55);
    }

    private static void drawWithoutNoise() {
        BondOffice x = withBonds(5, "");
        keeps(x, "none", -2, x::draw);
        x.noise(7);
        keeps(x, "one", -2, x::draw);
        x.noise(7);
        due("two", x.draw(), 0);
        keeps(x, "none again", -2, x::draw);
    }

    private static void drawWithoutBonds() {
        BondOffice x = withHolders(1);
        x.rule(0, 0);
        noises(x, 1, 2);
        keeps(x, "none sold", -3, x::draw);
        x.buy(0, 1);
        x.cash(0, 0, 0);
        keeps(x, "all cashed", -3, x::draw);
        x.buy(0, 1);
        due("one held", x.draw(), 0);
        due("m", x.drawn(0, 2), 1);
    }

    private static BondOffice withDraws(int n) {
        BondOffice x = withBonds(3, "fund 1/1;tier 1x1;");
        for (int i = 0; i < n; i++) {
            due("draw", drawInOrder(x), i);
        }
        return x;
    }

    private static void draw41() {
        BondOffice x = withDraws(39);
        due("the 40th", drawInOrder(x), 39);
        noises(x, 1, 2);
        keeps(x, "a 41st", -4, x::draw);
        x.wait(501);
        keeps(x, "a 41st when wins are old", -4, x::draw);
        due("draws", x.count(5), 40);
        due("open wins", x.count(7), 40);
        due("numbers", x.count(9), 2);
    }

    private static void drawRefusalsInOrder() {
        BondOffice x = withHolders(1);
        keeps(x, "no rule, no noise, no bond", -1, x::draw);
        noises(x, 1, 2);
        keeps(x, "no rule, no bond", -1, x::draw);
        BondOffice y = withHolders(1);
        y.rule(0, 0);
        y.noise(1);
        keeps(y, "no noise, no bond", -2, y::draw);
        y.noise(1);
        keeps(y, "no bond", -3, y::draw);
        BondOffice z = withDraws(40);
        z.noise(1);
        keeps(z, "no noise, 40 draws", -2, z::draw);
        z.noise(1);
        keeps(z, "40 draws", -4, z::draw);
        z.cash(0, 0, 2);
        keeps(z, "no bond, 40 draws", -3, z::draw);
        BondOffice last = withDraws(40);
        last.cash(0, 0, 2);
        keeps(last, "no noise, no bond, 40 draws", -2, last::draw);
    }

    private static void drawRefusedKeepsOldWins() {
        BondOffice x = withBonds(3, "fund 5/1;tier 5x2;");
        drawInOrder(x);
        x.wait(501);
        keeps(x, "no noise", -2, x::draw);
        x.cash(0, 0, 2);
        noises(x, 3, 4);
        keeps(x, "no bond", -3, x::draw);
        due("open", x.win(0, 4), 0);
        due("carried", x.carried(), 5);
        due("numbers", x.count(9), 2);
        x.buy(0, 1);
        due("draw", x.draw(), 1);
        due("lapsed", x.win(0, 4), 2);
        due("numbers stayed: 3 and 4 by 1", x.drawn(1, 5), 5 + 5 + 10);
    }

    private static void daysAgo() {
        BondOffice x = withHolders(1);
        x.wait(4);
        x.buy(0, 5);
        tell(x, "days 3;", 0);
        noises(x, 0, 0);
        keeps(x, "today", -3, x::draw);
        x.wait(2);
        keeps(x, "2 days ago", -3, x::draw);
        x.wait(1);
        x.buy(0, 2);
        due("3 days ago", x.draw(), 0);
        due("m", x.drawn(0, 2), 5);
        x.wait(1);
        due("4 days ago", drawInOrder(x), 1);
        due("m", x.drawn(1, 2), 5);
        x.wait(2);
        due("the later ones 3 days ago", drawInOrder(x), 2);
        due("m", x.drawn(2, 2), 7);
    }

    private static void greatestDays() {
        for (String rule : new String[] {"days 2;days 5;days 3;", "days 5;days 2;", "days 0;days 5;"}) {
            BondOffice x = withBonds(3, rule);
            noises(x, 0, 0);
            x.wait(4);
            keeps(x, rule + " 4 days ago", -3, x::draw);
            x.wait(1);
            due(rule + " 5 days ago", x.draw(), 0);
        }
    }

    private static void noDays() {
        for (String rule : new String[] {"", "fund 7/1;", "tier 9x9;", "share 8 8;", "days 0;"}) {
            BondOffice x = withBonds(3, rule);
            due("'" + rule + "' bonds of today", drawInOrder(x), 0);
            due("m", x.drawn(0, 2), 3);
        }
        BondOffice y = withBonds(3, "days 1;");
        noises(y, 0, 0);
        keeps(y, "one day asked for", -3, y::draw);
    }

    private static void farDays() {
        BondOffice x = withBonds(3, "days 100000;");
        for (int i = 0; i < 9; i++) {
            x.wait(10_000);
        }
        x.wait(9_999);
        noises(x, 0, 0);
        keeps(x, "day 99,999", -3, x::draw);
        x.wait(1);
        due("day 100,000", x.draw(), 0);
        noises(x, 0, 0);
        for (String rule : new String[] {"days 100001;", "days 1000000000;"}) {
            tell(x, rule, 100_000);
            keeps(x, rule, -3, x::draw);
        }
    }

    private static void remaindersStayOld() {
        BondOffice x = withBonds(9, "days 4;fund 1/1;tier 1x9;");
        x.wait(3);
        x.give(0, 3, 5, 1);
        x.cash(0, 8, 8);
        x.wait(1);
        due("draw", drawInOrder(x), 0);
        // 0 to 2, 6 and 7 may win; 3 to 5 are held as well.
        drawDue(x, 0, 4, 0, 5, 0, 1, 8, 5, 0, 3);
        int[] bonds = {0, 1, 2, 6, 7};
        for (int i = 0; i < bonds.length; i++) {
            due("bond of win " + i, x.win(i, 1), bonds[i]);
        }
    }

    private static void givenOnesAreNew() {
        BondOffice x = withBonds(6, "days 4;fund 1/1;tier 1x9;");
        x.holder();
        x.wait(1);
        x.give(0, 0, 1, 1);
        x.wait(1);
        x.died(0, 2);
        x.wait(2);
        noises(x, 0, 0);
        keeps(x, "none is old enough", -3, x::draw);
        x.wait(1);
        due("given ones 4 days ago", x.draw(), 0);
        due("m", x.drawn(0, 2), 2);
        due("whose", x.win(0, 2), 1);
        x.wait(1);
        due("inherited ones 4 days ago", drawInOrder(x), 1);
        due("m", x.drawn(1, 2), 6);
        due("whose", x.win(4, 2), 2);
    }

    private static void heldNow() {
        BondOffice x = withBonds(5, "fund 1/1;tier 1x9;");
        x.cash(0, 0, 0);
        x.cash(0, 4, 4);
        x.cash(0, 2, 2);
        due("draw", drawInOrder(x), 0);
        due("m", x.drawn(0, 2), 2);
        due("wins", x.drawn(0, 6), 2);
        due("bond", x.win(0, 1), 1);
        due("bond", x.win(1, 1), 3);
    }

    private static void orderOfNumbers() {
        BondOffice x = withBonds(6, "fund 1/1;tier 1x6;");
        x.give(0, 4, 5, 1);
        x.give(0, 0, 1, 1);
        x.give(1, 1, 1, 0);
        due("draw", drawInOrder(x), 0);
        int[] owners = {1, 0, 0, 0, 1, 1};
        for (int i = 0; i < 6; i++) {
            winDue(x, i, 0, i, owners[i], 1, 0);
        }
        due("draw from the last place on", drawWith(x, 5), 1);
        due("bond", x.win(6, 1), 5);
        due("bond", x.win(7, 1), 0);
    }

    private static void oneBond() {
        BondOffice x = withBonds(1, "fund 3/1;tier 1x3;");
        int[][] noises = {{0, 0}, {-1, 7}, {MAX, MIN}, {1, 1}};
        for (int i = 0; i < noises.length; i++) {
            noises(x, noises[i]);
            due("draw", x.draw(), i);
            drawDue(x, i, 0, 0, 1, 0, 1, 3 + 2 * i, 1, i, 2 + 2 * i);
            due("bond", x.win(i, 1), 0);
        }
    }

    private static void allBonds() {
        BondOffice x = withLines(100, 10_000_000);
        tell(x, "fund 1/1000000;tier 1x3;", 0);
        // MIX 31: 999,999,999 times 31 leaves 999,999,969, and 999,999,998: 999,999,967. MIX 37 likewise: 999,999,961.
        noises(x, 999_999_999, 999_999_998);
        due("draw", x.draw(), 0);
        // 1 and MIX is 999,999,962: it is even; 999,999,963 ends in neither 5 nor an even digit.
        drawDue(x, 0, 0, 0, 1_000_000_000, 999_999_967, 999_999_963, 1_000, 3, 0, 997);
        due("bond", x.win(0, 1), 999_999_967);
        due("bond", x.win(1, 1), 999_999_930);
        due("bond", x.win(2, 1), 999_999_893);
        due("the last place", drawWith(x, 999_999_999), 1);
        drawDue(x, 1, 0, 0, 1_000_000_000, 999_999_999, 1_000_000_001);
        due("bond", x.win(3, 1), 999_999_999);
        due("bond", x.win(4, 1), 0);
    }

    private static void mixAroundM() {
        int[] seconds = {0, 1, 9, 10, 11, 19, 20};
        int[] starts = {0, 1, 9, 0, 1, 9, 0};
        int[] steps = {1, 3, 11, 1, 3, 11, 1};
        BondOffice x = withBonds(10, "");
        for (int i = 0; i < seconds.length; i++) {
            due("draw", drawWith(x, seconds[i]), i);
            due("start by " + seconds[i], x.drawn(i, 3), starts[i]);
            due("step by " + seconds[i], x.drawn(i, 4), steps[i]);
        }
    }

    private static void mixWithoutSign() {
        // By 10 these leave 5, 4, 8 and 7; by 7 they leave 3, 2, 2 and 1.
        int[] numbers = {-1, -2, MIN, MAX};
        int[] byTen = {5, 4, 8, 7};
        int[] bySeven = {3, 2, 2, 1};
        BondOffice ten = withBonds(10, "");
        BondOffice seven = withBonds(7, "");
        for (int i = 0; i < numbers.length; i++) {
            drawWith(ten, numbers[i]);
            due("start by 10 of " + numbers[i], ten.drawn(i, 3), byTen[i]);
            drawWith(seven, numbers[i]);
            due("start by 7 of " + numbers[i], seven.drawn(i, 3), bySeven[i]);
            due("step by 7 of " + numbers[i], seven.drawn(i, 4), 1 + bySeven[i]);
        }
        noises(ten, -1, -1);
        ten.draw();
        // 5 times 31 and 5: 160; 5 times 37 and 5: 190.
        due("start", ten.drawn(4, 3), 0);
        due("step", ten.drawn(4, 4), 1);
    }

    private static void mixOfFewAndMany() {
        BondOffice x = withBonds(7, "");
        noises(x, 1, 0);
        x.draw();
        // 31 leaves 3 by 7, and 37 leaves 2.
        due("start of two", x.drawn(0, 3), 3);
        due("step of two", x.drawn(0, 4), 3);
        noises(x, 1, 0, 0, 0, 0, 0, 0, 0, 0, 0, 0, 0, 0, 0, 0, 0, 0, 0, 0, 0);
        x.draw();
        // 3 to the 19th leaves 3 (3 to the 6th leaves 1); 2 to the 19th leaves 2 (2 to the 3rd leaves 1).
        due("start of 20", x.drawn(1, 3), 3);
        due("step of 20", x.drawn(1, 4), 3);
        noises(x, 0, 0, 0, 0, 0, 0, 0, 0, 0, 0, 0, 0, 0, 0, 0, 0, 0, 0, 0, 5);
        x.noise(1);
        x.draw();
        due("the 20th counts, a 21st does not", x.drawn(2, 3), 5);
        noises(x, 1, 1, 0);
        x.draw();
        // (3 and 1) times 3: 12; (2 and 1) times 2: 6, and 1: 7, which is M.
        due("start of three", x.drawn(3, 3), 5);
        due("step of three", x.drawn(3, 4), 8);
    }

    private static void stepWithoutDivisor() {
        int[] seconds = {0, 1, 2, 6, 7, 10, 13, 22, 23, 24, 28};
        int[] steps = {1, 7, 7, 7, 11, 11, 17, 23, 29, 29, 29};
        BondOffice x = withBonds(30, "");
        for (int i = 0; i < seconds.length; i++) {
            drawWith(x, seconds[i]);
            due("step from " + (seconds[i] + 1) + " on", x.drawn(i, 4), steps[i]);
            due("start", x.drawn(i, 3), seconds[i]);
        }
    }

    private static void stepBehindM() {
        int[] sizes = {2, 3, 4, 6, 30, 49, 10_000_000};
        for (int m : sizes) {
            BondOffice x = withBonds(m, "");
            drawWith(x, m - 1);
            due("step from M on, M " + m, x.drawn(0, 4), m + 1);
            drawWith(x, m - 2);
            due("step from M less 1 on, M " + m, x.drawn(1, 4), m - 1);
        }
    }

    private static void drawnGoAround() {
        BondOffice x = withBonds(10, "fund 1/1;tier 1x4;");
        drawWith(x, 6);
        // START 6, STEP 7: 6, 13, 20, 27.
        drawDue(x, 0, 0, 0, 10, 6, 7);
        int[] bonds = {6, 3, 0, 7};
        for (int i = 0; i < bonds.length; i++) {
            due("bond of win " + i, x.win(i, 1), bonds[i]);
        }
        drawWith(x, 9);
        // START 9, STEP 11: 9, 20, 31, 42.
        int[] next = {9, 0, 1, 2};
        for (int i = 0; i < next.length; i++) {
            due("bond of win " + (4 + i), x.win(4 + i, 1), next[i]);
        }
    }

    private static void drawnOnce() {
        for (int m = 2; m <= 50; m++) {
            BondOffice x = withBonds(m, "fund 1/1;tier 1x50;");
            noises(x, 3 * m + 1, 5 * m + 7, 11);
            x.draw();
            due("wins", x.drawn(0, 6), m);
            TreeSet<Integer> bonds = new TreeSet<>();
            for (int i = 0; i < m; i++) {
                bonds.add(x.win(i, 1));
            }
            due("different bonds of " + m, bonds.size(), m);
            due("the least", bonds.first(), 0);
            due("the greatest", bonds.last(), m - 1);
        }
    }

    /** All pairs of noises 0 to 5 for 6 bonds: each bond is the first one drawn by 6 of the 36. */
    private static void drawnByAsManyNoises() {
        int[] first = new int[6];
        BondOffice x = withBonds(6, "fund 1/1;tier 1x2;");
        for (int noise = 0; noise < 36; noise++) {
            noises(x, noise / 6, noise % 6);
            due("draw", x.draw(), noise);
            first[x.win(2 * noise, 1)]++;
        }
        for (int bond = 0; bond < 6; bond++) {
            due("noises that draw bond " + bond + " first", first[bond], 6);
        }
    }

    private static void dueFund(int bonds, String rule, long fund) {
        BondOffice x = withBonds(bonds, rule);
        due("draw", drawInOrder(x), 0);
        due("fund of " + bonds + " by " + rule, x.drawn(0, 5), fund);
        due("carried", x.carried(), fund);
    }

    private static void fundCut() {
        dueFund(6, "fund 1/7;", 0);
        dueFund(7, "fund 1/7;", 1);
        dueFund(13, "fund 1/7;", 1);
        dueFund(14, "fund 1/7;", 2);
        // Times p comes first: 5 by 3 is 1, but 10 by 3 is 3.
        dueFund(5, "fund 2/3;", 3);
        dueFund(1, "fund 999999/1000000;", 0);
        dueFund(1, "fund 1000000/1000000;", 1);
    }

    private static void fundOfManyClauses() {
        // Each is cut for itself.
        dueFund(3, "fund 1/2;fund 1/2;", 2);
        dueFund(3, "fund 1/2;days 0;fund 3/2;tier 9x9;fund 1/1;", 1 + 4 + 3);
        dueFund(3, "fund 1/4;fund 1/4;fund 1/4;fund 1/4;", 0);
        dueFund(2, "fund1/1;fund1/1;fund1/1;fund1/1;fund1/1;fund1/1;fund1/1;fund1/1;fund1/1;fund1/1;", 20);
    }

    private static void fundWithout() {
        dueFund(3, "", 0);
        dueFund(3, "days 0;tier 1x1;share 1 100;", 0);
        BondOffice x = withBonds(3, "fund 2/1;");
        drawInOrder(x);
        tell(x, "tier 6x1;", 0);
        drawInOrder(x);
        drawDue(x, 1, 0, 1, 3, 0, 1, 6, 1, 0, 0);
    }

    private static void fundOfHeldOnes() {
        BondOffice x = withBonds(10, "days 1;fund 1/1;");
        x.wait(1);
        x.buy(1, 4);
        x.give(0, 0, 2, 1);
        x.cash(0, 8, 9);
        due("draw", drawInOrder(x), 0);
        due("m: 3 to 7", x.drawn(0, 2), 5);
        due("fund: all but 8 and 9", x.drawn(0, 5), 12);
    }

    private static void fundAtTheEnds() {
        dueFund(10_000_000, "fund 0/1;", 0);
        dueFund(10_000_000, "fund 0/1000000000;", 0);
        dueFund(10_000_000, "fund 1000000/1;", 10_000_000_000_000L);
        dueFund(999, "fund 1000000/1000000000;", 0);
        dueFund(1_000, "fund 1000000/1000000000;", 1);
        dueFund(2_147, "fund 1000000/1;", 2_147_000_000L);
        dueFund(2_148, "fund 1000000/1;", 2_148_000_000L);
        dueFund(4_295, "fund 1000000/1;", 4_295_000_000L);
        BondOffice x = withLines(100, 10_000_000);
        tell(x, "fund 1/1000000000;fund 1000000/1;", 0);
        drawInOrder(x);
        due("fund of all bonds", x.drawn(0, 5), 1_000_000_000_000_001L);
        x.cash(0, 0, 0);
        drawInOrder(x);
        due("and of all but one", x.drawn(1, 5), 1_000_000_000_000_001L + 999_999_999_000_000L);
    }

    private static void fundWithCarried() {
        BondOffice x = withBonds(3, "fund 1/1;tier 4x1;");
        drawInOrder(x);
        drawDue(x, 0, 0, 0, 3, 0, 1, 3, 0, NONE, 3);
        drawInOrder(x);
        drawDue(x, 1, 0, 0, 3, 0, 1, 6, 1, 0, 2);
        drawInOrder(x);
        drawDue(x, 2, 0, 0, 3, 0, 1, 5, 1, 1, 1);
        drawInOrder(x);
        drawDue(x, 3, 0, 0, 3, 0, 1, 4, 1, 2, 0);
        drawInOrder(x);
        drawDue(x, 4, 0, 0, 3, 0, 1, 3, 0, NONE, 3);
    }

    private static void fundAboveLongs() {
        BondOffice x = withLines(100, 10_000_000);
        tell(x, "fund1000000/1;".repeat(10), 0);
        for (int i = 0; i < 9; i++) {
            drawInOrder(x);
        }
        tell(x, "share 1000000000 100;", 0);
        drawInOrder(x);
        due("fund, times 100 not above", x.drawn(9, 5), 90_000_000_000_000_000L);
        due("wins", x.drawn(9, 6), 50);
        tell(x, "fund1000000/1;".repeat(9) + "share 1000000000 100;", 0);
        drawInOrder(x);
        // Times 100 it would wrap around to below 0.
        due("fund, times 100 above", x.drawn(10, 5), 98_999_950_000_000_000L);
        due("wins", x.drawn(10, 6), 50);
        due("carried", x.drawn(10, 8), 98_999_900_000_000_000L);

        BondOffice most = withLines(100, 10_000_000);
        tell(most, "fund1000000/1;".repeat(10), 0);
        for (int i = 0; i < 39; i++) {
            drawInOrder(most);
        }
        due("carried", most.carried(), 390_000_000_000_000_000L);
        tell(most, "fund1000000/1;".repeat(9) + "share 1000000000 24;", 0);
        drawInOrder(most);
        due("the greatest fund that is shared", most.drawn(39, 5), 399_000_000_000_000_000L);
        due("wins", most.drawn(39, 6), 50);
        due("carried", most.drawn(39, 8), 398_999_950_000_000_000L);
    }

    private static void lapseAfter500() {
        BondOffice x = withBonds(2, "fund 5/1;tier 5x2;");
        drawInOrder(x);
        x.wait(499);
        drawInOrder(x);
        due("499 days ago", x.win(0, 4), 0);
        x.wait(1);
        drawInOrder(x);
        due("500 days ago", x.win(0, 4), 0);
        due("fund", x.drawn(2, 5), 10);
        x.wait(1);
        drawInOrder(x);
        due("501 days ago", x.win(0, 4), 2);
        due("501 days ago", x.win(1, 4), 2);
        due("2 days ago", x.win(2, 4), 0);
        due("fund with both", x.drawn(3, 5), 20);
        due("carried", x.carried(), 10);
    }

    private static void lapseOnce() {
        BondOffice x = withBonds(3, "fund 5/1;tier 5x3;");
        drawInOrder(x);
        due("claim", x.claim(1), 5);
        x.wait(501);
        drawInOrder(x);
        due("open ones lapse", x.win(0, 4), 2);
        due("claimed ones do not", x.win(1, 4), 1);
        due("open ones lapse", x.win(2, 4), 2);
        due("fund", x.drawn(1, 5), 25);
        x.wait(500);
        drawInOrder(x);
        due("they do not lapse again", x.drawn(2, 5), 25);
        x.claim(3);
        x.claim(4);
        x.claim(5);
        x.wait(1);
        drawInOrder(x);
        due("none lapses when all are claimed", x.drawn(3, 5), 25);
    }

    private static void lapseFirst() {
        BondOffice x = withBonds(2, "fund 1/1;tier 2x1;");
        drawInOrder(x);
        due("carried", x.carried(), 0);
        tell(x, "tier 2x9;", 1);
        x.wait(501);
        drawInOrder(x);
        // What lapses is in the FUND of the very draw that makes it lapse, and won again.
        drawDue(x, 1, 501, 1, 2, 0, 1, 2, 1, 1, 0);
        due("lapsed", x.win(0, 4), 2);
        due("won again", x.win(1, 3), 2);
        due("open", x.count(7), 1);
    }

    private static void dueWins(int bonds, String rule, int wins, long carried) {
        BondOffice x = withBonds(bonds, rule);
        due("draw", drawInOrder(x), 0);
        due("wins of " + bonds + " by " + rule, x.drawn(0, 6), wins);
        due("count of wins", x.count(6), wins);
        due("carried of " + bonds + " by " + rule, x.drawn(0, 8), carried);
        due("carried now", x.carried(), carried);
    }

    private static void tierMany() {
        dueWins(20, "fund 1/1;tier 2x0;", 0, 20);
        dueWins(20, "fund 1/1;tier 2x1;", 1, 18);
        dueWins(20, "fund 1/1;tier 2x9;", 9, 2);
        dueWins(20, "fund 1/1;tier 2x1000000000;", 10, 0);
        dueWins(20, "fund 1/1;tier 1000000000x1000000000;", 0, 20);
    }

    private static void tierOfWhatIsLeft() {
        dueWins(9, "fund 1/1;tier 5x2;", 1, 4);
        dueWins(10, "fund 1/1;tier 5x2;", 2, 0);
        dueWins(11, "fund 1/1;tier 5x2;", 2, 1);
        dueWins(11, "fund 1/1;tier 11x1;", 1, 0);
        dueWins(10, "fund 1/1;tier 11x1;", 0, 10);
        dueWins(10, "fund 1/1;tier 6x1;tier 4x1;", 2, 0);
        dueWins(10, "fund 1/1;tier 6x1;tier 5x1;", 1, 4);
        dueWins(10, "fund 1/1;tier 10x1;tier 1x1;", 1, 0);
        dueWins(10, "fund 0/1;tier 1x1;", 0, 0);
    }

    private static void shareCut() {
        // 199 times 50 by 100 is 99.
        dueWins(199, "fund 1/1;share 100 50;", 0, 199);
        dueWins(199, "fund 1/1;share 99 50;", 1, 100);
        dueWins(200, "fund 1/1;share 100 50;", 1, 100);
        dueWins(199, "fund 1/1;share 50 50;", 1, 149);
        dueWins(199, "fund 1/1;share 33 50;", 3, 100);
        dueWins(99, "fund 1/1;share 1 1;", 0, 99);
        dueWins(100, "fund 1/1;share 1 1;", 1, 99);
        dueWins(101, "fund 1/1;share 1 99;", 50, 51);
        dueWins(101, "fund 1/1;share 99 99;", 1, 2);
        dueWins(101, "fund 1/1;share 100 99;", 0, 101);
    }

    private static void shareOfTheWhole() {
        // 60 of 100 are gone, but 50 of 100 is what the share is of: 50 by 10 are 5, of which 40 has 4.
        dueWins(100, "fund 1/1;tier 60x1;share 10 50;", 5, 0);
        dueWins(100, "fund 1/1;tier 60x1;share 10 30;", 4, 10);
        dueWins(100, "fund 1/1;share 10 30;share 10 30;", 6, 40);
        dueWins(100, "fund 1/1;share 10 80;share 10 30;", 10, 0);
        dueWins(100, "fund 1/1;share 30 60;share 41 80;", 2, 40);
        dueWins(100, "fund 1/1;share 30 60;share 40 80;", 3, 0);
    }

    private static void shareAtTheEnds() {
        dueWins(20, "fund 1/1;share 1 0;", 0, 20);
        dueWins(20, "fund 1/1;share 1 100;", 20, 0);
        dueWins(20, "fund 1/1;share 20 100;", 1, 0);
        dueWins(20, "fund 1/1;share 21 100;", 0, 20);
        dueWins(20, "fund 1/1;share 1000000000 100;", 0, 20);
        dueWins(20, "share 1 100;", 0, 0);
        dueWins(1_000, "fund 1000000/1;share 1000000000 99;", 0, 1_000_000_000);
        dueWins(1_000, "fund 1000000/1;share 1000000000 100;", 1, 0);
    }

    private static void fiftyInAll() {
        dueWins(60, "fund 1/1;tier 1x49;", 49, 11);
        dueWins(60, "fund 1/1;tier 1x50;", 50, 10);
        dueWins(60, "fund 1/1;tier 1x51;", 50, 10);
        dueWins(60, "fund 1/1;share 1 100;", 50, 10);
        dueWins(60, "fund 1/1;tier 1x25;tier 1x25;", 50, 10);
        dueWins(60, "fund 1/1;tier 1x49;tier 2x2;", 50, 9);
        dueWins(60, "fund 1/1;tier 1x50;tier 1x1;", 50, 10);
        dueWins(60, "fund 1/1;tier 1x30;share 1 50;", 50, 10);
        dueWins(10_000_000, "fund 1/1;tier 1x1000000000;", 50, 9_999_950);
    }

    private static void asManyAsMayWin() {
        dueWins(1, "fund 9/1;tier 1x9;", 1, 8);
        dueWins(2, "fund 9/1;tier 1x9;", 2, 16);
        dueWins(49, "fund 2/1;tier 1x60;", 49, 49);
        dueWins(50, "fund 2/1;tier 1x60;", 50, 50);
        dueWins(51, "fund 2/1;tier 1x60;", 50, 52);
        dueWins(5, "fund 9/1;tier 1x4;tier 3x2;", 5, 38);
        dueWins(5, "fund 9/1;share 1 100;tier 1x1;", 5, 40);
        BondOffice x = withBonds(5, "days 1;fund 9/1;tier 1x9;");
        x.wait(1);
        x.buy(0, 5);
        drawInOrder(x);
        due("those that may win, not those that are held", x.drawn(0, 6), 5);
        due("carried", x.carried(), 85);
    }

    private static void clauseByClause() {
        BondOffice x = withBonds(100, "share 20 40;fund 1/1;tier 7x2;days 0;tier 9x1;share 1 4;");
        drawInOrder(x);
        int[] prizes = {20, 20, 7, 7, 9, 1, 1, 1, 1};
        due("wins", x.drawn(0, 6), prizes.length);
        for (int i = 0; i < prizes.length; i++) {
            winDue(x, i, 0, i, 0, prizes[i], 0);
        }
        due("carried", x.carried(), 100 - 67);
    }

    private static void tooDearIsPassedOver() {
        dueWins(10, "fund 1/1;tier 11x1;tier 3x1;", 1, 7);
        dueWins(10, "fund 1/1;tier 3x1;tier 8x1;tier 7x1;", 2, 0);
        dueWins(10, "fund 1/1;share 11 100;tier 10x1;", 1, 0);
        dueWins(10, "fund 1/1;tier 1x0;tier 1x1;", 1, 9);
        dueWins(10, "fund 1/1;share 1 0;share 1 10;", 1, 9);
    }

    private static void winOfTheHolder() {
        BondOffice x = withHolders(3);
        x.buy(2, 1);
        x.buy(0, 1);
        x.buy(1, 1);
        tell(x, "fund 1/1;tier 1x3;", 0);
        drawInOrder(x);
        due("bond 0", x.win(0, 2), 2);
        due("bond 1", x.win(1, 2), 0);
        due("bond 2", x.win(2, 2), 1);
        x.give(2, 0, 0, 1);
        x.cash(1, 2, 2);
        due("a bond that is given on", x.win(0, 2), 2);
        due("a bond that is cashed", x.win(2, 2), 1);
        due("claim of a cashed one", x.claim(2), 1);
        drawInOrder(x);
        due("the one that has it now", x.win(3, 2), 1);
    }

    private static void winNumbers() {
        BondOffice x = withBonds(3, "fund 1/1;tier 1x2;");
        drawInOrder(x);
        tell(x, "", 0);
        drawInOrder(x);
        tell(x, "fund 1/1;tier 1x3;", 0);
        drawInOrder(x);
        long[] firsts = {0, NONE, 2};
        long[] many = {2, 0, 3};
        for (int i = 0; i < 3; i++) {
            due("first win", x.drawn(i, 7), firsts[i]);
            due("wins", x.drawn(i, 6), many[i]);
        }
        int[] draws = {0, 0, 2, 2, 2};
        int[] bonds = {0, 1, 0, 1, 2};
        for (int i = 0; i < 5; i++) {
            winDue(x, i, draws[i], bonds[i], 0, 1, 0);
        }
        keeps(x, "a sixth", INDEX, () -> x.win(5, 0));
    }

    private static void allWins() {
        BondOffice x = withBonds(60, "fund 1/1;tier 1x50;");
        for (int i = 0; i < 40; i++) {
            drawInOrder(x);
            due("first win", x.drawn(i, 7), 50 * i);
        }
        due("wins", x.count(6), 2_000);
        due("open wins", x.count(7), 2_000);
        winDue(x, 1_999, 39, 49, 0, 1, 0);
        keeps(x, "one more", INDEX, () -> x.win(2_000, 0));
        due("claim of the last", x.claim(1_999), 1);
        due("open wins", x.count(7), 1_999);
        due("carried", x.carried(), 400);
        due("died", x.died(0, 1), 1);
        due("the first goes to the heir", x.win(0, 2), 1);
        due("the last but one does", x.win(1_998, 2), 1);
        due("the claimed one does not", x.win(1_999, 2), 0);
    }

    private static void drawnNoSuchDraw() {
        BondOffice x = withDraws(2);
        for (int draw : outside(2)) {
            keeps(x, "draw " + draw, INDEX, () -> x.drawn(draw, 0));
            keeps(x, "draw " + draw + ", another what", INDEX, () -> x.drawn(draw, 9));
        }
        keeps(x, "the first", 0, () -> x.drawn(0, 7));
        keeps(x, "the last", 1, () -> x.drawn(1, 7));
        BondOffice all = withDraws(40);
        keeps(all, "the 40th", 39, () -> all.drawn(39, 7));
        keeps(all, "a 41st", INDEX, () -> all.drawn(40, 7));
    }

    private static void drawnAnotherWhat() {
        BondOffice x = withBonds(10, "");
        x.wait(3);
        tell(x, "fund 3/1;tier 11x2;", 3);
        drawWith(x, 7);
        for (int what : outside(9)) {
            keeps(x, "what " + what, ARGUMENT, () -> x.drawn(0, what));
        }
        drawDue(x, 0, 3, 1, 10, 7, 9, 30, 2, 0, 8);
    }

    private static void drawnWithoutWins() {
        BondOffice x = withBonds(3, "fund 1/1;tier 4x1;");
        drawInOrder(x);
        due("wins", x.drawn(0, 6), 0);
        due("first win", x.drawn(0, 7), NONE);
        drawInOrder(x);
        due("wins", x.drawn(1, 6), 1);
        due("first win", x.drawn(1, 7), 0);
        due("it stays without", x.drawn(0, 7), NONE);
    }

    private static void drawnStays() {
        BondOffice x = withBonds(3, "fund 1/1;tier 2x1;");
        drawInOrder(x);
        String facts = factsOf(x, 0);
        x.wait(501);
        x.buy(1, 5);
        tell(x, "days 1;fund 2/1;", 0);
        drawWith(x, 2);
        x.cash(0, 0, 2);
        if (!factsOf(x, 0).equals(facts)) {
            fail("an old draw changed");
        }
        due("carried from it", x.drawn(0, 8), 1);
        due("carried from the next, with what lapsed", x.drawn(1, 8), 1 + 2 + 16);
        due("carried now", x.carried(), 19);
    }

    private static String factsOf(BondOffice x, int draw) {
        StringBuilder text = new StringBuilder();
        for (int what = 0; what <= 8; what++) {
            text.append(x.drawn(draw, what)).append(' ');
        }
        return text.toString();
    }

    private static void winNoSuchWin() {
        BondOffice x = withDraws(2);
        for (int win : outside(2)) {
            keeps(x, "win " + win, INDEX, () -> x.win(win, 0));
            keeps(x, "win " + win + ", another what", INDEX, () -> x.win(win, 5));
        }
        keeps(x, "the first", 0, () -> x.win(0, 0));
        keeps(x, "the last", 1, () -> x.win(1, 0));
    }

    private static void winAnotherWhat() {
        BondOffice x = withHolders(2);
        x.buy(1, 5);
        tell(x, "fund 2/1;tier 7x1;", 0);
        drawWith(x, 3);
        for (int what : outside(5)) {
            keeps(x, "what " + what, ARGUMENT, () -> x.win(0, what));
        }
        winDue(x, 0, 0, 3, 1, 7, 0);
    }

    private static void winStates() {
        BondOffice x = withBonds(3, "fund 1/1;tier 1x3;");
        drawInOrder(x);
        due("open", x.win(0, 4), 0);
        x.claim(0);
        due("claimed", x.win(0, 4), 1);
        x.wait(501);
        due("old, but no draw made it lapse", x.win(1, 4), 0);
        due("claimed", x.win(0, 4), 1);
        drawInOrder(x);
        due("lapsed", x.win(1, 4), 2);
        due("claimed for good", x.win(0, 4), 1);
        due("open", x.win(3, 4), 0);
    }

    private static void claimNoSuchWin() {
        BondOffice x = withDraws(2);
        for (int win : outside(2)) {
            keeps(x, "claim " + win, INDEX, () -> x.claim(win));
        }
        due("the first", x.claim(0), 1);
        due("the last", x.claim(1), 1);
    }

    private static void claimTwice() {
        BondOffice x = withBonds(3, "fund 2/1;tier 3x2;");
        drawInOrder(x);
        due("once", x.claim(0), 3);
        due("paid", x.paid(0), 3);
        keeps(x, "twice", -1, () -> x.claim(0));
        x.died(0, 1);
        keeps(x, "twice, when it is dead", -1, () -> x.claim(0));
        due("another one, by the heir", x.claim(1), 3);
        keeps(x, "twice", -1, () -> x.claim(1));
        due("paid to the dead", x.paid(0), 3);
        due("paid to the heir", x.paid(1), 3);
    }

    private static void claimAfter500() {
        BondOffice x = withBonds(3, "fund 1/1;tier 1x3;");
        x.wait(7);
        drawInOrder(x);
        due("that day", x.claim(0), 1);
        x.wait(500);
        due("500 days ago", x.claim(1), 1);
        x.wait(1);
        keeps(x, "501 days ago", -2, () -> x.claim(2));
        keeps(x, "again", -2, () -> x.claim(2));
        due("open", x.win(2, 4), 0);
        due("paid", x.paid(0), 2);
        x.wait(9_999);
        keeps(x, "long ago", -2, () -> x.claim(2));
    }

    private static void claimLapsed() {
        BondOffice x = withBonds(3, "fund 1/1;tier 1x1;");
        drawInOrder(x);
        x.wait(501);
        drawInOrder(x);
        due("lapsed", x.win(0, 4), 2);
        keeps(x, "a lapsed one", -2, () -> x.claim(0));
        due("a new one", x.claim(1), 1);
        due("paid", x.paid(0), 1);
    }

    private static void claimRefusalsInOrder() {
        BondOffice x = withBonds(3, "fund 1/1;tier 1x1;");
        drawInOrder(x);
        due("claim", x.claim(0), 1);
        x.wait(501);
        keeps(x, "claimed, and 501 days ago", -1, () -> x.claim(0));
        drawInOrder(x);
        keeps(x, "claimed, and a draw after", -1, () -> x.claim(0));
    }

    private static void claimLeastAndGreatest() {
        BondOffice x = withBonds(1_002, "fund 1000000/1;tier 1000000000x1;tier 1x1;share 1000001 1;");
        drawInOrder(x);
        due("the greatest", x.claim(0), 1_000_000_000);
        due("the least", x.claim(1), 1);
        due("the last", x.claim(2), 1_000_001);
        due("paid", x.paid(0), 1_001_000_002);
        due("carried", x.carried(), 1_002_000_000 - 1_001_000_002);
    }

    private static void paidNoSuchHolder() {
        BondOffice x = withDraws(1);
        for (int h : outside(2)) {
            keeps(x, "paid " + h, INDEX, () -> x.paid(h));
        }
        x.claim(0);
        keeps(x, "the first one", 1, () -> x.paid(0));
        keeps(x, "the last one", 0, () -> x.paid(1));
    }

    private static void paidInAll() {
        BondOffice x = withBonds(4, "fund 5/1;tier 2x1;tier 3x1;tier 4x1;");
        drawInOrder(x);
        due("at first", x.paid(0), 0);
        x.claim(2);
        due("one", x.paid(0), 4);
        x.claim(0);
        due("two", x.paid(0), 6);
        x.died(0, 1);
        x.claim(1);
        due("of the dead", x.paid(0), 6);
        due("of the heir, what it claimed itself", x.paid(1), 3);
    }

    private static void paidAboveInts() {
        BondOffice x = withBonds(10_000_000, "fund 1000/1;tier 1000000000x5;");
        drawInOrder(x);
        for (int i = 1; i <= 5; i++) {
            due("claim", x.claim(i - 1), 1_000_000_000);
            due("paid", x.paid(0), i * 1_000_000_000L);
        }
    }

    private static void carriedFromZero() {
        BondOffice x = withBonds(3, "fund 1/1;tier 3x1;");
        due("at first", x.carried(), 0);
        drawInOrder(x);
        due("nothing is left", x.carried(), 0);
        tell(x, "fund 1/1;tier 2x1;", 0);
        drawInOrder(x);
        due("one is left", x.carried(), 1);
        tell(x, "fund 1/3;", 0);
        drawInOrder(x);
        due("and one more", x.carried(), 2);
    }

    private static void carriedByDrawsAlone() {
        BondOffice x = withBonds(3, "fund 1/1;tier 1x2;");
        drawInOrder(x);
        due("carried", x.carried(), 1);
        x.claim(0);
        x.wait(501);
        x.claim(1);
        x.died(0, 1);
        x.cash(1, 0, 0);
        keeps(x, "claims, days, deaths and cashing change nothing", 1, x::carried);
        drawInOrder(x);
        due("a draw does: 1 and 1 that lapsed, 2 of the fund, less 2", x.carried(), 2);
    }

    private static void countOthers() {
        BondOffice x = withDraws(1);
        for (int what : new int[] {-1, 11, 12, MIN, MAX}) {
            keeps(x, "count " + what, NONE, () -> x.count(what));
        }
        int[] due = {2, 3, 3, 1, 1, 1, 1, 1, 0, 0, 0};
        for (int what = 0; what < due.length; what++) {
            int w = what;
            keeps(x, "count " + w, due[w], () -> x.count(w));
        }
    }

    /** All limits at once, in fewer than 512 calls. */
    private static void countGreatest() {
        BondOffice x = withHolders(60);
        for (int i = 0; i < 100; i++) {
            x.buy(0, 10_000_000);
        }
        for (int i = 0; i < 14; i++) {
            x.give(i % 2, 0, 999_999_999, 1 - i % 2);
        }
        for (int i = 0; i < 19; i++) {
            x.rule(0, 0);
        }
        tell(x, "fund 1/1;tier 1x50;", 0);
        for (int i = 0; i < 40; i++) {
            drawInOrder(x);
        }
        for (int i = 0; i < 10; i++) {
            x.wait(10_000);
        }
        for (int i = 0; i < 20; i++) {
            x.noise(i);
            x.feed(i, i, i, i, i);
        }
        int[] due = {60, 1_000_000_000, 1_000_000_000, 1_500, 20, 40, 2_000, 2_000, 100_000, 20, 400};
        for (int what = 0; what < due.length; what++) {
            due("count " + what, x.count(what), due[what]);
        }
        keeps(x, "a holder more", STATE, x::holder);
        keeps(x, "a bond more", -1, () -> x.buy(0, 1));
        keeps(x, "a line more", -2, () -> x.give(0, 0, 0, 1));
        keeps(x, "a rule more", STATE, () -> x.rule(0, 0));
        keeps(x, "a draw more", -4, x::draw);
        keeps(x, "a day more", ARGUMENT, () -> x.wait(1));
        keeps(x, "a noise more", NONE, () -> x.noise(0));
        keeps(x, "a byte more", NONE, () -> x.feed(0, 0, 0, 0, 0));
    }

    private static void countOpen() {
        BondOffice x = withBonds(3, "fund 1/1;tier 1x3;");
        due("none", x.count(7), 0);
        drawInOrder(x);
        due("three", x.count(7), 3);
        x.claim(1);
        due("two", x.count(7), 2);
        x.wait(501);
        due("old ones are open until a draw", x.count(7), 2);
        drawInOrder(x);
        due("those of the draw alone", x.count(7), 3);
        due("all", x.count(6), 6);
    }
}
