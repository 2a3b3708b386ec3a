/**
 * Promises 1 to 10 and the terms that they speak of: each sentence that names an edge has a test of its own, with the
 * last input on its one side and the first on its other. No object has more than 512 calls, as later ones are free.
 */
public final class BondOfficeBondEdges extends OfficeTest {
    public static void main(String[] args) {
        newObjects();
        holders();
        buying();
        giving();
        cashing();
        dying();
        asking();
        waiting();
        end();
    }

    private static void newObjects() {
        edge("1: no HOLDERS", BondOfficeBondEdges::newHasNoHolders);
        edge("1: no BONDS", BondOfficeBondEdges::newHasNoBonds);
        edge("1: no RULES", BondOfficeBondEdges::newHasNoRules);
        edge("1: no DRAWS", BondOfficeBondEdges::newHasNoDraws);
        edge("1: nothing CARRIED", BondOfficeBondEdges::newCarriesNothing);
        edge("1: DAY 0", BondOfficeBondEdges::newIsOnDay0);
        edge("1: an object shares nothing with another", BondOfficeBondEdges::objectsAreApart);
        edge("An object is used for at most 512 calls", BondOfficeBondEdges::call512Answers);
    }

    private static void holders() {
        edge("HOLDERS, numbered from 0 on", BondOfficeBondEdges::holderNumbers);
        edge("2: there are 60", BondOfficeBondEdges::holder61);
        edge("2: those that DIED are of the 60", BondOfficeBondEdges::holder61AfterADeath);
    }

    private static void buying() {
        edge("3: no such HOLDER", BondOfficeBondEdges::buyNoSuchHolder);
        edge("3: n is not 1 to 10,000,000", BondOfficeBondEdges::buyTooFewOrTooMany);
        edge("3: it DIED", BondOfficeBondEdges::buyOfTheDead);
        edge("3: which exception comes first", BondOfficeBondEdges::buyExceptionsInOrder);
        edge("3: -1, more than 1,000,000,000", BondOfficeBondEdges::buyBeyondAllBonds);
        edge("3: -1, of the most that one may buy", BondOfficeBondEdges::buyMostBeyondAllBonds);
        edge("BONDS, 1,000,000,000 at most in all", BondOfficeBondEdges::cashedBondsCountAsSold);
        edge("3: -2, more than 1,500 LINES", BondOfficeBondEdges::buyBeyondAllLines);
        edge("LINES, 1,500 at most in all", BondOfficeBondEdges::endedLinesCount);
        edge("3: the first of these", BondOfficeBondEdges::buyBondsAheadOfLines);
        edge("BOUGHT: the next ones, since today", BondOfficeBondEdges::buyTheNextOnes);
    }

    private static void giving() {
        edge("4: no such HOLDER", BondOfficeBondEdges::giveNoSuchHolder);
        edge("4: both are one", BondOfficeBondEdges::giveToItself);
        edge("4: one DIED", BondOfficeBondEdges::giveOfAndToTheDead);
        edge("4: -1, it doesn't hold all of a to b", BondOfficeBondEdges::giveWhatItHasNot);
        edge("4: -1, a is above b", BondOfficeBondEdges::giveBackwards);
        edge("4: -1, a and b so far apart that they wrap around", BondOfficeBondEdges::giveWrapsAround);
        edge("4: -2, more than 1,500 LINES of one", BondOfficeBondEdges::giveBeyondAllLines);
        edge("4: -2, more than 1,500 LINES of many", BondOfficeBondEdges::giveManyBeyondAllLines);
        edge("4: -1 ahead of -2, exceptions ahead of both", BondOfficeBondEdges::giveRefusalsInOrder);
        edge("LINES that would have no BONDS do not come", BondOfficeBondEdges::giveWithoutEmptyLines);
        edge("GIVEN: ahead of a, then behind b, then between", BondOfficeBondEdges::giveMakesLinesInOrder);
        edge("GIVEN: LINE by LINE in the order in which they came", BondOfficeBondEdges::giveTakesLinesInOrder);
        edge("GIVEN: the last BOND of a LINE and the first of the next", BondOfficeBondEdges::giveAcrossASeam);
        edge("GIVEN: again on the same DAY", BondOfficeBondEdges::giveTwiceADay);
    }

    private static void cashing() {
        edge("5: no such HOLDER", BondOfficeBondEdges::cashNoSuchHolder);
        edge("5: it DIED", BondOfficeBondEdges::cashOfTheDead);
        edge("5: how many", BondOfficeBondEdges::cashAnswersHowMany);
        edge("5: -1 likewise", BondOfficeBondEdges::cashWhatItHasNot);
        edge("5: -1, a above b and wrap-around", BondOfficeBondEdges::cashBackwardsAndAround);
        edge("5: -2 likewise", BondOfficeBondEdges::cashBeyondAllLines);
        edge("5: -1 ahead of -2", BondOfficeBondEdges::cashRefusalsInOrder);
        edge("once cashed by none for good", BondOfficeBondEdges::cashedForGood);
    }

    private static void dying() {
        edge("6: no such HOLDER", BondOfficeBondEdges::diedNoSuchHolder);
        edge("6: both are one", BondOfficeBondEdges::diedWithItself);
        edge("6: one DIED", BondOfficeBondEdges::diedTwice);
        edge("6: how many LINES the HEIR has by that", BondOfficeBondEdges::diedAnswersHowMany);
        edge("6: -2 likewise", BondOfficeBondEdges::diedBeyondAllLines);
        edge("6: exceptions ahead of -2", BondOfficeBondEdges::diedRefusalsInOrder);
        edge("DIED: all its LINES that go on end", BondOfficeBondEdges::diedLeavesEndedLines);
        edge("DIED: each with one of the HEIR behind it (in order)", BondOfficeBondEdges::diedTakesLinesInOrder);
        edge("DIED: WINS that are not claimed, nor lapsed", BondOfficeBondEdges::diedLeavesClaimedAndLapsed);
        edge("DIED: it can't have anything any more", BondOfficeBondEdges::deadHaveNothing);
        edge("DIED: the HEIR too", BondOfficeBondEdges::heirDiesToo);
    }

    private static void asking() {
        edge("7: came on that DAY or ahead", BondOfficeBondEdges::heldSince);
        edge("7: did not end on that DAY or ahead", BondOfficeBondEdges::heldUntil);
        edge("7: LINES that came and ended on one DAY", BondOfficeBondEdges::heldWithinADay);
        edge("7: NONE, no such BOND", BondOfficeBondEdges::heldNoSuchBond);
        edge("7: NONE, no such DAY; DAYS to come", BondOfficeBondEdges::heldOnFarDays);
        edge("7: the first and the last BOND of a span", BondOfficeBondEdges::heldAtSpanEnds);
        edge("8: no such HOLDER", BondOfficeBondEdges::hasNoSuchHolder);
        edge("8: none, one, and all", BondOfficeBondEdges::hasFewAndAll);
        edge("9: no such LINE", BondOfficeBondEdges::lineNoSuchLine);
        edge("9: another what", BondOfficeBondEdges::lineAnotherWhat);
        edge("9: the 1,500th LINE", BondOfficeBondEdges::lineOfAllLines);
        edge("9: NONE, it goes on", BondOfficeBondEdges::lineEnds);
    }

    private static void waiting() {
        edge("10: they are not 0 to 10,000", BondOfficeBondEdges::waitTooFewOrTooMany);
        edge("10: it would be above 100,000", BondOfficeBondEdges::waitBeyondTheLastDay);
        edge("10: days so many that the DAY would wrap around", BondOfficeBondEdges::waitWrapsAround);
    }

    private static void newHasNoHolders() {
        BondOffice x = new BondOffice();
        due("count(0)", x.count(0), 0);
        for (int h : outside(0)) {
            keeps(x, "has " + h, INDEX, () -> x.has(h));
            keeps(x, "paid " + h, INDEX, () -> x.paid(h));
            keeps(x, "buy " + h, INDEX, () -> x.buy(h, 1));
            keeps(x, "cash " + h, INDEX, () -> x.cash(h, 0, 0));
            keeps(x, "give " + h, INDEX, () -> x.give(h, 0, 0, h));
            keeps(x, "died " + h, INDEX, () -> x.died(h, h));
        }
    }

    private static void newHasNoBonds() {
        BondOffice x = new BondOffice();
        due("sold", x.count(1), 0);
        due("held now", x.count(2), 0);
        due("lines", x.count(3), 0);
        keeps(x, "held", NONE, () -> x.held(0, 0));
        keeps(x, "line", INDEX, () -> x.line(0, 0));
        x.holder();
        due("the first bond", x.buy(0, 1), 0);
    }

    private static void newHasNoRules() {
        BondOffice x = new BondOffice();
        due("rules", x.count(4), 0);
        for (int day : new int[] {0, 1, 100_000, MAX, -1, MIN}) {
            keeps(x, "force " + day, NONE, () -> x.force(day));
        }
        keeps(x, "fault", NONE, x::fault);
        keeps(x, "draw", -1, x::draw);
        due("tape", x.count(10), 0);
        due("the first rule", x.rule(0, 0), 0);
    }

    private static void newHasNoDraws() {
        BondOffice x = new BondOffice();
        due("draws", x.count(5), 0);
        due("wins", x.count(6), 0);
        due("open wins", x.count(7), 0);
        due("noise", x.count(9), 0);
        keeps(x, "drawn", INDEX, () -> x.drawn(0, 0));
        keeps(x, "win", INDEX, () -> x.win(0, 0));
        keeps(x, "claim", INDEX, () -> x.claim(0));
    }

    private static void newCarriesNothing() {
        BondOffice x = withBonds(3, "fund 1/1;");
        keeps(x, "carried", 0, x::carried);
        due("first draw", drawInOrder(x), 0);
        due("its fund has nothing more", x.drawn(0, 5), 3);
    }

    private static void newIsOnDay0() {
        BondOffice x = withHolders(1);
        due("day", x.count(8), 0);
        due("wait(0)", x.wait(0), 0);
        x.buy(0, 1);
        due("since", x.line(0, 3), 0);
    }

    private static void objectsAreApart() {
        BondOffice x = new BondOffice();
        BondOffice y = new BondOffice();
        String before = stateOf(y);
        x.holder();
        x.holder();
        x.buy(0, 5);
        tell(x, "fund 1/1;tier 1x1;", 0);
        drawInOrder(x);
        x.noise(1);
        x.feed(1, 2, 3, 4, 5);
        x.wait(1);
        x.died(0, 1);
        if (!stateOf(y).equals(before) || !stateOf(new BondOffice()).equals(before)) {
            fail("another object changed");
        }
    }

    private static void call512Answers() {
        BondOffice x = new BondOffice();
        x.holder();
        for (int i = 0; i < 510; i++) {
            due("buy", x.buy(0, 1), i);
        }
        due("the 512th call", x.buy(0, 1), 510);
    }

    private static void holderNumbers() {
        BondOffice x = new BondOffice();
        due("the first", x.holder(), 0);
        due("the second", x.holder(), 1);
        x.died(0, 1);
        due("a number is not used again", x.holder(), 2);
    }

    private static void holder61() {
        BondOffice x = withHolders(59);
        due("the 60th", x.holder(), 59);
        keeps(x, "the 61st", STATE, x::holder);
        due("holders", x.count(0), 60);
        due("the 60th buys", x.buy(59, 1), 0);
        keeps(x, "a 61st buys", INDEX, () -> x.buy(60, 1));
    }

    private static void holder61AfterADeath() {
        BondOffice x = withHolders(60);
        due("died", x.died(59, 0), 0);
        keeps(x, "the 61st", STATE, x::holder);
        due("holders", x.count(0), 60);
        due("has", x.has(59), 0);
    }

    private static void buyNoSuchHolder() {
        BondOffice x = withHolders(2);
        for (int h : outside(2)) {
            keeps(x, "buy of " + h, INDEX, () -> x.buy(h, 1));
        }
        due("the first one buys", x.buy(0, 1), 0);
        due("the last one buys", x.buy(1, 1), 1);
    }

    private static void buyTooFewOrTooMany() {
        BondOffice x = withHolders(1);
        for (int n : new int[] {0, -1, MIN, 10_000_001, MAX}) {
            keeps(x, "buy " + n, ARGUMENT, () -> x.buy(0, n));
        }
        due("buy 1", x.buy(0, 1), 0);
        due("buy 10,000,000", x.buy(0, 10_000_000), 1);
        due("sold", x.count(1), 10_000_001);
        lineDue(x, 0, 0, 0, 0, 0, NONE);
        lineDue(x, 1, 1, 10_000_000, 0, 0, NONE);
    }

    private static void buyOfTheDead() {
        BondOffice x = withHolders(2);
        due("it buys", x.buy(0, 1), 0);
        x.died(0, 1);
        keeps(x, "buy of the dead", STATE, () -> x.buy(0, 1));
        due("the heir buys", x.buy(1, 1), 1);
    }

    private static void buyExceptionsInOrder() {
        BondOffice x = withHolders(2);
        x.died(0, 1);
        keeps(x, "no such holder, no such n", INDEX, () -> x.buy(2, 0));
        keeps(x, "no such n of the dead", ARGUMENT, () -> x.buy(0, 0));
        keeps(x, "no such n of the dead", ARGUMENT, () -> x.buy(0, 10_000_001));

        BondOffice full = filledTo(1_500);
        full.died(2, 0);
        keeps(full, "no such holder, all lines", INDEX, () -> full.buy(3, 1));
        keeps(full, "no such n, all lines", ARGUMENT, () -> full.buy(0, 0));
        keeps(full, "of the dead, all lines", STATE, () -> full.buy(2, 1));
    }

    /** 99 lines of 10,000,000, and one of so many fewer. */
    private static BondOffice almostAllSold(int missing) {
        BondOffice x = withLines(99, 10_000_000);
        due("buy", x.buy(0, 10_000_000 - missing), 990_000_000);
        return x;
    }

    private static void buyBeyondAllBonds() {
        BondOffice x = almostAllSold(1);
        keeps(x, "two when one is left", -1, () -> x.buy(0, 2));
        keeps(x, "most when one is left", -1, () -> x.buy(0, 10_000_000));
        due("the last one", x.buy(0, 1), 999_999_999);
        keeps(x, "one when none is left", -1, () -> x.buy(0, 1));
        keeps(x, "most when none is left", -1, () -> x.buy(1, 10_000_000));
        due("sold", x.count(1), 1_000_000_000);
        due("held now", x.count(2), 1_000_000_000);
        due("the last one is held", x.held(999_999_999, 0), 0);
        due("none behind it is", x.held(1_000_000_000, 0), NONE);
    }

    private static void buyMostBeyondAllBonds() {
        BondOffice x = withLines(99, 10_000_000);
        due("the last 10,000,000", x.buy(0, 10_000_000), 990_000_000);
        BondOffice y = withLines(99, 10_000_000);
        y.buy(0, 1);
        keeps(y, "one more than are left", -1, () -> y.buy(0, 10_000_000));
        due("as many as are left", y.buy(0, 9_999_999), 990_000_001);
        due("sold", y.count(1), 1_000_000_000);
    }

    private static void cashedBondsCountAsSold() {
        BondOffice x = almostAllSold(0);
        due("cash all", x.cash(0, 0, 999_999_999), 1_000_000_000);
        due("held now", x.count(2), 0);
        keeps(x, "cashed ones are not sold again", -1, () -> x.buy(0, 1));
        due("sold", x.count(1), 1_000_000_000);
    }

    private static void buyBeyondAllLines() {
        BondOffice x = filledTo(1_499);
        due("the 1,500th line", x.buy(0, 1), 100);
        due("lines", x.count(3), 1_500);
        keeps(x, "a 1,501st line", -2, () -> x.buy(0, 1));
        keeps(x, "a 1,501st line of most", -2, () -> x.buy(1, 10_000_000));
        due("sold", x.count(1), 101);
    }

    private static void endedLinesCount() {
        BondOffice x = filledTo(1_500);
        due("cash all", x.cash(0, 0, 99), 100);
        due("none goes on", x.count(2), 0);
        keeps(x, "a 1,501st line", -2, () -> x.buy(0, 1));
        due("lines", x.count(3), 1_500);
    }

    private static void buyBondsAheadOfLines() {
        BondOffice x = almostAllSold(1);
        for (int i = 0; i < 14; i++) {
            due("give all", x.give(i % 2, 0, 999_999_998, 1 - i % 2), 1);
        }
        due("lines", x.count(3), 1_500);
        keeps(x, "too many bonds and lines", -1, () -> x.buy(0, 2));
        keeps(x, "too many lines alone", -2, () -> x.buy(0, 1));
    }

    private static void buyTheNextOnes() {
        BondOffice x = withHolders(2);
        x.buy(0, 2);
        x.cash(0, 1, 1);
        x.wait(1);
        due("behind the last sold, cashed or not", x.buy(1, 3), 2);
        lineDue(x, 2, 2, 4, 1, 1, NONE);
        due("behind it", x.buy(1, 1), 5);
        lineDue(x, 3, 5, 5, 1, 1, NONE);
    }

    private static void giveNoSuchHolder() {
        BondOffice x = withLines(1, 5);
        for (int h : outside(3)) {
            keeps(x, "give of " + h, INDEX, () -> x.give(h, 0, 0, 0));
            keeps(x, "give to " + h, INDEX, () -> x.give(0, 0, 0, h));
            keeps(x, "give of and to " + h, INDEX, () -> x.give(h, 0, 0, h));
        }
        due("to the last one", x.give(0, 0, 0, 2), 1);
        due("to the first one", x.give(2, 0, 0, 0), 1);
    }

    private static void giveToItself() {
        BondOffice x = withLines(1, 5);
        keeps(x, "to itself", ARGUMENT, () -> x.give(0, 0, 0, 0));
        keeps(x, "what it hasn't to itself", ARGUMENT, () -> x.give(1, 0, 0, 1));
        keeps(x, "nothing to itself", ARGUMENT, () -> x.give(0, 1, 0, 0));
        x.died(0, 1);
        keeps(x, "of the dead to itself", ARGUMENT, () -> x.give(0, 0, 0, 0));
        due("to the next one", x.give(1, 0, 0, 2), 1);
    }

    private static void giveOfAndToTheDead() {
        BondOffice x = withHolders(4);
        x.buy(0, 5);
        due("died", x.died(1, 0), 0);
        due("died", x.died(2, 0), 0);
        keeps(x, "to the dead", STATE, () -> x.give(0, 0, 0, 1));
        keeps(x, "of the dead", STATE, () -> x.give(1, 0, 0, 0));
        keeps(x, "of the dead to the dead", STATE, () -> x.give(1, 0, 0, 2));
        keeps(x, "what it hasn't to the dead", STATE, () -> x.give(0, 5, 5, 1));
        keeps(x, "nothing to the dead", STATE, () -> x.give(0, 1, 0, 1));
        keeps(x, "of the dead to no such holder", INDEX, () -> x.give(1, 0, 0, 4));
        due("to one alive", x.give(0, 0, 0, 3), 1);
    }

    /** Holder 0 has 0 to 9, 15, 16, 18 and 19; holder 1 has 10 to 14; 17 is cashed; 20 is not sold. */
    private static BondOffice withHoles() {
        BondOffice x = withHolders(3);
        x.buy(0, 10);
        x.buy(1, 5);
        x.buy(0, 5);
        x.cash(0, 17, 17);
        return x;
    }

    private static final int[][] NOT_ALL_OF_0 = {{-1, -1}, {-1, 0}, {9, 10}, {10, 10}, {14, 14}, {14, 15}, {16, 17},
        {17, 17}, {17, 18}, {16, 18}, {9, 15}, {0, 19}, {19, 20}, {20, 20}};

    private static void giveWhatItHasNot() {
        BondOffice x = withHoles();
        for (int[] s : NOT_ALL_OF_0) {
            keeps(x, "give " + s[0] + " to " + s[1], -1, () -> x.give(0, s[0], s[1], 2));
        }
        keeps(x, "of one that has none", -1, () -> x.give(2, 0, 0, 0));
        due("the first", x.give(0, 0, 0, 2), 1);
        due("up to a hole", x.give(0, 9, 9, 2), 1);
        due("from behind a hole", x.give(0, 15, 16, 2), 1);
        due("up to the last", x.give(0, 18, 19, 2), 1);
        due("between two that were given", x.give(0, 1, 8, 2), 1);
        due("has", x.has(2), 14);
    }

    private static void giveBackwards() {
        BondOffice x = withLines(1, 10);
        keeps(x, "a one above b", -1, () -> x.give(0, 5, 4, 1));
        keeps(x, "a far above b", -1, () -> x.give(0, 9, 0, 1));
        keeps(x, "of one that has none", -1, () -> x.give(1, 1, 0, 2));
        keeps(x, "ahead of all", -1, () -> x.give(0, 0, -1, 1));
        keeps(x, "behind all", -1, () -> x.give(0, 10, 9, 1));
        due("a is b", x.give(0, 5, 5, 1), 1);
        due("a one below b", x.give(0, 3, 4, 1), 1);
    }

    private static void giveWrapsAround() {
        BondOffice x = withHolders(3);
        x.buy(0, 2);
        int[][] spans = {{MIN, MAX}, {MAX, MIN}, {MIN, MIN}, {MAX, MAX}, {0, MAX}, {MIN, 1}, {MIN, 0}, {1, MAX},
            {MAX, 0}, {1, MIN}, {-1, MAX}, {MIN, -1}, {2, MAX}};
        for (int[] s : spans) {
            // MIN to MAX are as many as an int takes for none, MAX to MIN as many as it takes for two.
            keeps(x, "of two: " + s[0] + " to " + s[1], -1, () -> x.give(0, s[0], s[1], 2));
            keeps(x, "of none: " + s[0] + " to " + s[1], -1, () -> x.give(1, s[0], s[1], 2));
            keeps(x, "cash of two: " + s[0] + " to " + s[1], -1, () -> x.cash(0, s[0], s[1]));
            keeps(x, "cash of none: " + s[0] + " to " + s[1], -1, () -> x.cash(1, s[0], s[1]));
        }
        due("both", x.give(0, 0, 1, 2), 1);
    }

    private static void giveBeyondAllLines() {
        int[][] spans = {{100, 109}, {100, 100}, {100, 108}, {109, 109}, {101, 109}, {101, 108}, {104, 104}};
        int[] made = {1, 2, 2, 2, 2, 3, 3};
        for (int i = 0; i < spans.length; i++) {
            int a = spans[i][0];
            int b = spans[i][1];
            BondOffice x = filledWithTen(1_500 - made[i]);
            due("give " + a + " to " + b + " that fits", x.give(2, a, b, 0), 1);
            due("lines", x.count(3), 1_500);
            BondOffice y = filledWithTen(1_501 - made[i]);
            keeps(y, "give " + a + " to " + b + " that does not fit", -2, () -> y.give(2, a, b, 0));
        }
    }

    private static void giveManyBeyondAllLines() {
        BondOffice x = filledTo(1_497);
        keeps(x, "four lines", -2, () -> x.give(0, 0, 3, 2));
        due("three lines", x.give(0, 0, 2, 2), 1);
        due("lines", x.count(3), 1_500);
        keeps(x, "a 1,501st line", -2, () -> x.give(0, 3, 3, 2));
        due("has", x.has(2), 3);
    }

    private static void giveRefusalsInOrder() {
        BondOffice x = filledTo(1_500);
        keeps(x, "what it hasn't", -1, () -> x.give(1, 0, 0, 2));
        keeps(x, "a above b", -1, () -> x.give(0, 1, 0, 2));
        keeps(x, "what it has", -2, () -> x.give(0, 0, 0, 2));
        keeps(x, "no such holder", INDEX, () -> x.give(0, 0, 0, 3));
        keeps(x, "to itself", ARGUMENT, () -> x.give(0, 0, 0, 0));
        x.died(2, 1);
        keeps(x, "to the dead", STATE, () -> x.give(0, 0, 0, 2));
    }

    private static void giveWithoutEmptyLines() {
        int[][] spans = {{0, 9}, {0, 8}, {1, 9}, {1, 8}, {0, 0}, {9, 9}, {5, 5}};
        int[] made = {1, 2, 2, 3, 2, 2, 3};
        for (int i = 0; i < spans.length; i++) {
            BondOffice x = withLines(1, 10);
            due("give", x.give(0, spans[i][0], spans[i][1], 1), 1);
            due("lines by " + spans[i][0] + " to " + spans[i][1], x.count(3), 1 + made[i]);
            due("has", x.has(1), spans[i][1] - spans[i][0] + 1);
            due("has the rest", x.has(0), 9 - spans[i][1] + spans[i][0]);
        }
        BondOffice y = withLines(1, 1);
        due("give the only one", y.give(0, 0, 0, 1), 1);
        due("lines", y.count(3), 2);
        lineDue(y, 1, 0, 0, 1, 0, NONE);
    }

    private static void giveMakesLinesInOrder() {
        BondOffice x = withHolders(2);
        x.wait(3);
        x.buy(0, 10);
        x.wait(4);
        due("give", x.give(0, 1, 8, 1), 1);
        lineDue(x, 0, 0, 9, 0, 3, 7);
        lineDue(x, 1, 0, 0, 0, 3, NONE);
        lineDue(x, 2, 9, 9, 0, 3, NONE);
        lineDue(x, 3, 1, 8, 1, 7, NONE);
        due("lines", x.count(3), 4);
        x.wait(1);
        due("the first of a line", x.give(1, 1, 1, 0), 1);
        lineDue(x, 4, 2, 8, 1, 7, NONE);
        lineDue(x, 5, 1, 1, 0, 8, NONE);
        due("the last of a line", x.give(1, 8, 8, 0), 1);
        lineDue(x, 6, 2, 7, 1, 7, NONE);
        lineDue(x, 7, 8, 8, 0, 8, NONE);
        due("lines", x.count(3), 8);
    }

    private static void giveTakesLinesInOrder() {
        BondOffice x = withHolders(2);
        x.buy(1, 3);
        x.buy(0, 3);
        x.wait(1);
        due("bonds 0 to 2 come behind 3 to 5", x.give(1, 0, 2, 0), 1);
        x.wait(1);
        due("give all but the ends", x.give(0, 1, 4, 1), 1);
        lineDue(x, 1, 3, 5, 0, 0, 2);
        lineDue(x, 2, 0, 2, 0, 1, 2);
        lineDue(x, 3, 5, 5, 0, 0, NONE);
        lineDue(x, 4, 3, 4, 1, 2, NONE);
        lineDue(x, 5, 0, 0, 0, 1, NONE);
        lineDue(x, 6, 1, 2, 1, 2, NONE);
        due("lines", x.count(3), 7);
    }

    private static void giveAcrossASeam() {
        BondOffice x = withLines(3, 4);
        due("give 3 and 4", x.give(0, 3, 4, 1), 1);
        lineDue(x, 2, 8, 11, 0, 0, NONE);
        lineDue(x, 3, 0, 2, 0, 0, NONE);
        lineDue(x, 4, 3, 3, 1, 0, NONE);
        lineDue(x, 5, 5, 7, 0, 0, NONE);
        lineDue(x, 6, 4, 4, 1, 0, NONE);
        due("lines", x.count(3), 7);
        due("give up to the last of a line", x.give(0, 5, 7, 1), 1);
        due("the next line goes on", x.line(2, 4), NONE);
        due("lines", x.count(3), 8);
    }

    private static void giveTwiceADay() {
        BondOffice x = withLines(1, 4);
        due("give", x.give(0, 0, 3, 1), 1);
        due("give back", x.give(1, 0, 3, 0), 1);
        lineDue(x, 0, 0, 3, 0, 0, 0);
        lineDue(x, 1, 0, 3, 1, 0, 0);
        lineDue(x, 2, 0, 3, 0, 0, NONE);
        due("lines", x.count(3), 3);
    }

    private static void cashNoSuchHolder() {
        BondOffice x = withLines(1, 5);
        for (int h : outside(3)) {
            keeps(x, "cash of " + h, INDEX, () -> x.cash(h, 0, 0));
            keeps(x, "cash nothing of " + h, INDEX, () -> x.cash(h, 1, 0));
        }
        x.give(0, 4, 4, 2);
        due("of the first one", x.cash(0, 0, 0), 1);
        due("of the last one", x.cash(2, 4, 4), 1);
    }

    private static void cashOfTheDead() {
        BondOffice x = withLines(1, 5);
        x.died(0, 1);
        keeps(x, "of the dead", STATE, () -> x.cash(0, 0, 0));
        keeps(x, "nothing of the dead", STATE, () -> x.cash(0, 1, 0));
        due("of the heir", x.cash(1, 0, 0), 1);
    }

    private static void cashAnswersHowMany() {
        BondOffice x = withLines(2, 10);
        due("one", x.cash(0, 0, 0), 1);
        due("two", x.cash(0, 1, 2), 2);
        due("over a seam", x.cash(0, 9, 10), 2);
        due("all of a line", x.cash(0, 3, 8), 6);
        due("the rest", x.cash(0, 11, 19), 9);
        due("held now", x.count(2), 0);
        BondOffice all = almostAllSold(0);
        due("all that there can be", all.cash(0, 0, 999_999_999), 1_000_000_000);
        due("lines", all.count(3), 100);
    }

    private static void cashWhatItHasNot() {
        BondOffice x = withHoles();
        for (int[] s : NOT_ALL_OF_0) {
            keeps(x, "cash " + s[0] + " to " + s[1], -1, () -> x.cash(0, s[0], s[1]));
        }
        keeps(x, "of one that has none", -1, () -> x.cash(2, 0, 0));
        due("the first", x.cash(0, 0, 0), 1);
        due("up to a hole", x.cash(0, 9, 9), 1);
        due("from behind a hole", x.cash(0, 15, 16), 2);
        due("up to the last", x.cash(0, 18, 19), 2);
    }

    private static void cashBackwardsAndAround() {
        BondOffice x = withLines(1, 10);
        keeps(x, "a one above b", -1, () -> x.cash(0, 5, 4));
        keeps(x, "of one that has none", -1, () -> x.cash(1, 1, 0));
        keeps(x, "ahead of all", -1, () -> x.cash(0, 0, -1));
        keeps(x, "from the least to the greatest int", -1, () -> x.cash(1, MIN, MAX));
        keeps(x, "from the greatest to the least int", -1, () -> x.cash(0, MAX, MIN));
        due("a is b", x.cash(0, 5, 5), 1);
        due("a one below b", x.cash(0, 3, 4), 2);
    }

    private static void cashBeyondAllLines() {
        int[][] spans = {{100, 109}, {100, 108}, {101, 109}, {101, 108}};
        int[] made = {0, 1, 1, 2};
        for (int i = 0; i < spans.length; i++) {
            int a = spans[i][0];
            int b = spans[i][1];
            BondOffice x = filledWithTen(1_500 - made[i]);
            due("cash " + a + " to " + b + " that fits", x.cash(2, a, b), b - a + 1);
            due("lines", x.count(3), 1_500);
            if (made[i] > 0) {
                BondOffice y = filledWithTen(1_501 - made[i]);
                keeps(y, "cash " + a + " to " + b + " that does not fit", -2, () -> y.cash(2, a, b));
            }
        }
    }

    private static void cashRefusalsInOrder() {
        BondOffice x = filledWithTen(1_500);
        keeps(x, "what it hasn't", -1, () -> x.cash(0, 100, 108));
        keeps(x, "more than it has", -1, () -> x.cash(2, 99, 108));
        keeps(x, "a above b", -1, () -> x.cash(2, 105, 104));
        keeps(x, "what it has", -2, () -> x.cash(2, 100, 108));
        keeps(x, "no such holder", INDEX, () -> x.cash(3, 100, 108));
    }

    private static void cashedForGood() {
        BondOffice x = withLines(1, 3);
        x.wait(2);
        due("cash", x.cash(0, 1, 1), 1);
        due("held ahead", x.held(1, 1), 0);
        due("held that day", x.held(1, 2), NONE);
        due("held ever after", x.held(1, MAX), NONE);
        keeps(x, "cash again", -1, () -> x.cash(0, 1, 1));
        keeps(x, "give it", -1, () -> x.give(0, 1, 1, 1));
        due("the heir has the others", x.died(0, 1), 2);
        due("has", x.has(1), 2);
        keeps(x, "the heir cashes it", -1, () -> x.cash(1, 0, 2));
        due("held that day", x.held(1, 2), NONE);
        due("the next one sold is another", x.buy(1, 1), 3);
    }

    private static void diedNoSuchHolder() {
        BondOffice x = withLines(1, 5);
        for (int h : outside(3)) {
            keeps(x, "died " + h, INDEX, () -> x.died(h, 0));
            keeps(x, "heir " + h, INDEX, () -> x.died(0, h));
            keeps(x, "both " + h, INDEX, () -> x.died(h, h));
        }
        due("the first one, with the last one as heir", x.died(0, 2), 1);
        due("the last one", x.died(2, 1), 1);
    }

    private static void diedWithItself() {
        BondOffice x = withLines(1, 5);
        keeps(x, "itself as heir", ARGUMENT, () -> x.died(0, 0));
        keeps(x, "one without bonds, itself as heir", ARGUMENT, () -> x.died(2, 2));
        due("the next one as heir", x.died(0, 1), 1);
        keeps(x, "the dead, itself as heir", ARGUMENT, () -> x.died(0, 0));
    }

    private static void diedTwice() {
        BondOffice x = withHolders(4);
        x.buy(0, 5);
        due("died", x.died(0, 1), 1);
        keeps(x, "died again", STATE, () -> x.died(0, 1));
        keeps(x, "the dead as heir", STATE, () -> x.died(1, 0));
        due("died", x.died(2, 1), 0);
        keeps(x, "the dead, with the dead as heir", STATE, () -> x.died(0, 2));
        keeps(x, "the dead, with no such heir", INDEX, () -> x.died(0, 4));
        due("one alive, with one alive as heir", x.died(1, 3), 1);
    }

    private static void diedAnswersHowMany() {
        BondOffice x = withHolders(5);
        due("no line", x.died(0, 1), 0);
        due("lines", x.count(3), 0);
        x.buy(1, 5);
        due("one line", x.died(1, 2), 1);
        x.buy(2, 5);
        due("two lines, though the spans touch", x.died(2, 3), 2);
        x.give(3, 2, 6, 4);
        due("what goes on alone: 0 and 1, 7 to 9", x.died(3, 4), 2);
        due("has", x.has(4), 10);
        due("lines", x.count(3), 11);
    }

    private static void diedBeyondAllLines() {
        BondOffice fits = filledTo(1_400);
        due("100 lines more", fits.died(1, 2), 100);
        due("lines", fits.count(3), 1_500);
        due("none more", fits.died(0, 2), 0);

        BondOffice x = filledTo(1_400);
        x.buy(0, 1);
        tell(x, "fund 1/1;tier 1x1;", 0);
        drawInOrder(x);
        due("the win is holder 1's", x.win(0, 2), 1);
        keeps(x, "a 1,501st line", -2, () -> x.died(1, 2));
        due("it is alive", x.buy(1, 1), 101);
        due("its win is its own", x.win(0, 2), 1);
        due("another one may die", x.died(0, 2), 1);

        BondOffice full = filledTo(1_500);
        keeps(full, "100 lines too many", -2, () -> full.died(0, 1));
        due("one without lines", full.died(1, 0), 0);
    }

    private static void diedRefusalsInOrder() {
        BondOffice x = filledTo(1_500);
        due("died", x.died(2, 1), 0);
        keeps(x, "no such heir", INDEX, () -> x.died(0, 3));
        keeps(x, "itself as heir", ARGUMENT, () -> x.died(0, 0));
        keeps(x, "the dead as heir", STATE, () -> x.died(0, 2));
        keeps(x, "too many lines", -2, () -> x.died(0, 1));
    }

    private static void diedLeavesEndedLines() {
        BondOffice x = withHolders(3);
        x.buy(0, 4);
        x.wait(1);
        x.cash(0, 3, 3);
        x.wait(1);
        x.give(0, 0, 0, 1);
        due("what goes on is 1 and 2", x.died(0, 2), 1);
        lineDue(x, 0, 0, 3, 0, 0, 1);
        lineDue(x, 1, 0, 2, 0, 0, 2);
        lineDue(x, 2, 1, 2, 0, 0, 2);
        lineDue(x, 3, 0, 0, 1, 2, NONE);
        lineDue(x, 4, 1, 2, 2, 2, NONE);
        due("lines", x.count(3), 5);
    }

    private static void diedTakesLinesInOrder() {
        BondOffice x = withHolders(3);
        x.buy(1, 2);
        x.buy(0, 2);
        x.buy(1, 2);
        x.buy(0, 2);
        x.wait(1);
        due("bonds 4 and 5 come behind 6 and 7", x.give(1, 4, 5, 0), 1);
        due("bonds 0 and 1 come behind these", x.give(1, 0, 1, 0), 1);
        x.wait(1);
        due("died", x.died(0, 2), 4);
        lineDue(x, 6, 2, 3, 2, 2, NONE);
        lineDue(x, 7, 6, 7, 2, 2, NONE);
        lineDue(x, 8, 4, 5, 2, 2, NONE);
        lineDue(x, 9, 0, 1, 2, 2, NONE);
        due("lines", x.count(3), 10);
    }

    private static void diedLeavesClaimedAndLapsed() {
        BondOffice x = withBonds(3, "fund 10/1;tier 5x3;");
        drawInOrder(x);
        due("claim", x.claim(0), 5);
        x.wait(501);
        drawInOrder(x);
        due("claim", x.claim(3), 5);
        x.wait(501);
        due("died", x.died(0, 1), 1);
        int[] owners = {0, 0, 0, 0, 1, 1};
        int[] states = {1, 2, 2, 1, 0, 0};
        for (int i = 0; i < owners.length; i++) {
            due("whose win " + i + " is", x.win(i, 2), owners[i]);
            due("state of win " + i, x.win(i, 4), states[i]);
        }
        due("paid to the dead", x.paid(0), 10);
        due("paid to the heir", x.paid(1), 0);
    }

    private static void deadHaveNothing() {
        BondOffice x = withHolders(3);
        x.buy(0, 5);
        x.buy(1, 5);
        x.wait(1);
        due("has one day ahead", x.has(0), 5);
        due("died", x.died(0, 1), 1);
        due("has", x.has(0), 0);
        keeps(x, "buy", STATE, () -> x.buy(0, 1));
        keeps(x, "be given", STATE, () -> x.give(1, 0, 0, 0));
        keeps(x, "inherit", STATE, () -> x.died(1, 0));
        keeps(x, "give", STATE, () -> x.give(0, 0, 0, 1));
        keeps(x, "cash", STATE, () -> x.cash(0, 0, 0));
        due("what it held in its days", x.held(0, 0), 0);
        due("what the heir holds", x.held(0, 1), 1);
        due("paid", x.paid(0), 0);
    }

    private static void heirDiesToo() {
        BondOffice x = withBonds(2, "fund 5/1;tier 5x2;");
        x.holder();
        drawInOrder(x);
        due("died", x.died(0, 1), 1);
        due("the heir died", x.died(1, 2), 1);
        due("win", x.win(0, 2), 2);
        due("win", x.win(1, 2), 2);
        due("claim", x.claim(1), 5);
        due("paid", x.paid(2), 5);
        due("paid to the heir that died", x.paid(1), 0);
        lineDue(x, 2, 0, 1, 2, 0, NONE);
    }

    private static void heldSince() {
        BondOffice x = withHolders(2);
        x.wait(5);
        x.buy(0, 3);
        due("a day ahead", x.held(1, 4), NONE);
        due("that day", x.held(1, 5), 0);
        due("a day behind", x.held(1, 6), 0);
        x.wait(5);
        x.give(0, 1, 1, 1);
        due("ahead of giving", x.held(1, 9), 0);
        due("given that day", x.held(1, 10), 1);
        due("a day behind", x.held(1, 11), 1);
        due("what goes on came with the first line", x.held(0, 5), 0);
        due("what goes on was not ahead of it", x.held(0, 4), NONE);
    }

    private static void heldUntil() {
        BondOffice x = withHolders(2);
        x.buy(0, 3);
        x.wait(5);
        x.cash(0, 1, 1);
        due("a day ahead", x.held(1, 4), 0);
        due("that day", x.held(1, 5), NONE);
        due("a day behind", x.held(1, 6), NONE);
        x.wait(5);
        x.died(0, 1);
        due("a day ahead of death", x.held(0, 9), 0);
        due("that day", x.held(0, 10), 1);
        due("what went on up to the death", x.held(2, 5), 0);
        due("cashed ones are not inherited", x.held(1, 10), NONE);
    }

    private static void heldWithinADay() {
        BondOffice x = withHolders(3);
        x.wait(2);
        x.buy(0, 2);
        x.give(0, 0, 1, 1);
        x.give(1, 0, 1, 2);
        x.cash(2, 1, 1);
        due("a day ahead", x.held(0, 1), NONE);
        due("by the last one of that day", x.held(0, 2), 2);
        due("bought and cashed that day", x.held(1, 2), NONE);
        due("a day behind", x.held(1, 3), NONE);
    }

    private static void heldNoSuchBond() {
        BondOffice x = withLines(1, 3);
        for (int bond : outside(3)) {
            keeps(x, "held " + bond, NONE, () -> x.held(bond, 0));
        }
        keeps(x, "the first one", 0, () -> x.held(0, 0));
        keeps(x, "the last one", 0, () -> x.held(2, 0));
    }

    private static void heldOnFarDays() {
        BondOffice x = withLines(1, 3);
        x.wait(7);
        keeps(x, "day -1", NONE, () -> x.held(0, -1));
        keeps(x, "the least day", NONE, () -> x.held(0, MIN));
        keeps(x, "day 0", 0, () -> x.held(0, 0));
        keeps(x, "tomorrow", 0, () -> x.held(0, 8));
        keeps(x, "day 100,001", 0, () -> x.held(0, 100_001));
        keeps(x, "the greatest day", 0, () -> x.held(0, MAX));
        x.cash(0, 0, 0);
        keeps(x, "cashed, the greatest day", NONE, () -> x.held(0, MAX));
    }

    private static void heldAtSpanEnds() {
        BondOffice x = withLines(1, 10);
        x.give(0, 3, 6, 1);
        x.give(0, 9, 9, 2);
        int[] due = {0, 0, 0, 1, 1, 1, 1, 0, 0, 2};
        for (int bond = 0; bond < due.length; bond++) {
            due("held " + bond, x.held(bond, 0), due[bond]);
        }
    }

    private static void hasNoSuchHolder() {
        BondOffice x = withLines(1, 5);
        for (int h : outside(3)) {
            keeps(x, "has " + h, INDEX, () -> x.has(h));
        }
        keeps(x, "the first one", 5, () -> x.has(0));
        keeps(x, "the last one", 0, () -> x.has(2));
    }

    private static void hasFewAndAll() {
        BondOffice x = almostAllSold(0);
        due("all", x.has(0), 1_000_000_000);
        x.give(0, 0, 0, 1);
        due("one", x.has(1), 1);
        due("all but one", x.has(0), 999_999_999);
        x.cash(1, 0, 0);
        due("none any more", x.has(1), 0);
        x.died(0, 2);
        due("none of the dead", x.has(0), 0);
        due("all but one of the heir", x.has(2), 999_999_999);
    }

    private static void lineNoSuchLine() {
        BondOffice x = withLines(2, 5);
        for (int k : outside(2)) {
            keeps(x, "line " + k, INDEX, () -> x.line(k, 0));
            keeps(x, "line " + k + ", another what", INDEX, () -> x.line(k, 5));
        }
        keeps(x, "the first one", 0, () -> x.line(0, 0));
        keeps(x, "the last one", 5, () -> x.line(1, 0));
    }

    private static void lineAnotherWhat() {
        BondOffice x = withHolders(3);
        x.wait(4);
        x.buy(2, 6);
        x.wait(4);
        x.cash(2, 0, 5);
        for (int what : outside(5)) {
            keeps(x, "what " + what, ARGUMENT, () -> x.line(0, what));
        }
        lineDue(x, 0, 0, 5, 2, 4, 8);
    }

    private static void lineOfAllLines() {
        BondOffice x = filledTo(1_500);
        lineDue(x, 0, 0, 0, 0, 0, 0);
        lineDue(x, 1_499, 99, 99, 0, 0, NONE);
        keeps(x, "a 1,501st", INDEX, () -> x.line(1_500, 0));
    }

    private static void lineEnds() {
        BondOffice x = withLines(1, 2);
        due("it goes on", x.line(0, 4), NONE);
        due("it ends on day 0", x.cash(0, 0, 1), 2);
        due("ended", x.line(0, 4), 0);
    }

    private static void waitTooFewOrTooMany() {
        BondOffice x = new BondOffice();
        for (int days : new int[] {-1, 10_001, MIN, MAX}) {
            keeps(x, "wait " + days, ARGUMENT, () -> x.wait(days));
        }
        keeps(x, "wait 0", 0, () -> x.wait(0));
        due("wait 1", x.wait(1), 1);
        due("wait 10,000", x.wait(10_000), 10_001);
        keeps(x, "a day does not go back", ARGUMENT, () -> x.wait(-1));
        due("day", x.count(8), 10_001);
    }

    private static BondOffice onDay(int day) {
        BondOffice x = new BondOffice();
        for (int rest = day; rest > 0; rest -= 10_000) {
            x.wait(Math.min(rest, 10_000));
        }
        due("day", x.count(8), day);
        return x;
    }

    private static void waitBeyondTheLastDay() {
        BondOffice x = onDay(90_000);
        due("up to the last day at once", x.wait(10_000), 100_000);
        keeps(x, "a day more", ARGUMENT, () -> x.wait(1));
        keeps(x, "most days more", ARGUMENT, () -> x.wait(10_000));
        keeps(x, "no day more", 100_000, () -> x.wait(0));

        BondOffice y = onDay(90_001);
        keeps(y, "a day too many", ARGUMENT, () -> y.wait(10_000));
        due("just enough", y.wait(9_999), 100_000);

        BondOffice z = onDay(99_999);
        keeps(z, "two days", ARGUMENT, () -> z.wait(2));
        due("one day", z.wait(1), 100_000);
        z.holder();
        z.buy(0, 1);
        due("bought on the last day", z.held(0, 100_000), 0);
        due("not a day ahead", z.held(0, 99_999), NONE);
    }

    private static void waitWrapsAround() {
        BondOffice x = onDay(100_000);
        for (int days : new int[] {MAX, MAX - 100_000, MAX - 99_999, MIN, MIN + 1, -100_000}) {
            keeps(x, "wait " + days, ARGUMENT, () -> x.wait(days));
        }
    }
}
