/**
 * Promises 11 to 14 and the texts that they speak of: each sentence that names an edge has a test of its own, with
 * the last input on its one side and the first on its other.
 */
public final class BondOfficeRuleEdges extends OfficeTest {
    private static final String TEN = "days1;".repeat(10);

    public static void main(String[] args) {
        feeding();
        telling();
        reading();
        faultsOfPlaces();
        faultsOfNumbers();
        faultsOfClauses();
        places();
        forces();
        end();
    }

    private static void feeding() {
        edge("11: NONE, doing nothing, if there would be more than 400", BondOfficeRuleEdges::feedBeyond400);
        edge("11: of each number the highest first", BondOfficeRuleEdges::feedHighestFirst);
        edge("11: bytes above 127", BondOfficeRuleEdges::feedHighBytes);
        edge("11: behind those that are there", BondOfficeRuleEdges::feedBehind);
    }

    private static void telling() {
        edge("12: n is not 0 to the TAPE's bytes", BondOfficeRuleEdges::ruleOfTooManyBytes);
        edge("12: of an empty TAPE", BondOfficeRuleEdges::ruleOfAnEmptyTape);
        edge("12: of a full TAPE", BondOfficeRuleEdges::ruleOfAFullTape);
        edge("12: the DAY not 0 to 100,000", BondOfficeRuleEdges::ruleOfNoSuchDay);
        edge("12: the DAY may have gone by", BondOfficeRuleEdges::ruleOfThePast);
        edge("12: the first n bytes of the TAPE (empty then)", BondOfficeRuleEdges::ruleEmptiesTheTape);
        edge("12: its FAULT less 10", BondOfficeRuleEdges::ruleWithAFault);
        edge("12: there are 20", BondOfficeRuleEdges::rule21);
        edge("12: a text with a FAULT is none of the 20", BondOfficeRuleEdges::faultsAreNoRules);
        edge("12: which exception comes first", BondOfficeRuleEdges::ruleExceptionsInOrder);
    }

    private static void reading() {
        edge("TEXT: no CLAUSE at all", BondOfficeRuleEdges::emptyTexts);
        edge("N: digits, as many as stand there", BondOfficeRuleEdges::manyDigits);
        edge("N: the signs next to the digits", BondOfficeRuleEdges::signsNextToDigits);
        edge("WORDS: small letters, as many as stand there", BondOfficeRuleEdges::wordsWhole);
        edge("WORDS: the signs next to the letters", BondOfficeRuleEdges::signsNextToLetters);
        edge("blanks may stand ahead of all these, and at the end", BondOfficeRuleEdges::blanksAhead);
        edge("blanks (32), nothing else", BondOfficeRuleEdges::otherBlanks);
        edge("one at least between two N", BondOfficeRuleEdges::blankBetweenNumbers);
        edge("blanks within a WORD or an N", BondOfficeRuleEdges::blanksWithin);
        edge("{ CLAUSE \";\" }: one behind each", BondOfficeRuleEdges::semicolons);
    }

    private static void faultsOfPlaces() {
        edge("FAULT 1: what can't stand there, ahead of a CLAUSE", BondOfficeRuleEdges::cantBegin);
        edge("FAULT 1: in fund", BondOfficeRuleEdges::cantStandInFund);
        edge("FAULT 1: in days", BondOfficeRuleEdges::cantStandInDays);
        edge("FAULT 1: in tier", BondOfficeRuleEdges::cantStandInTier);
        edge("FAULT 1: in share", BondOfficeRuleEdges::cantStandInShare);
        edge("FAULT 1: at the length, if the text ends too early", BondOfficeRuleEdges::endsTooEarly);
        edge("FAULT 1: the bytes behind n do not count", BondOfficeRuleEdges::endsWhereTold);
    }

    private static void faultsOfNumbers() {
        edge("FAULT 2: an N above 1,000,000,000", BondOfficeRuleEdges::numbersAboveAll);
        edge("FAULT 2: an N so great that it wraps around", BondOfficeRuleEdges::numbersThatWrap);
        edge("FAULT 2: the first one of fund above 1,000,000", BondOfficeRuleEdges::firstOfFund);
        edge("FAULT 2: the second one of fund that is 0", BondOfficeRuleEdges::secondOfFund);
        edge("FAULT 2: the first one of tier that is 0", BondOfficeRuleEdges::firstOfTier);
        edge("FAULT 2: the first one of share that is 0", BondOfficeRuleEdges::firstOfShare);
        edge("FAULT 2: the second one of share above 100", BondOfficeRuleEdges::secondOfShare);
        edge("N that may be 0", BondOfficeRuleEdges::zerosThatMayBe);
    }

    private static void faultsOfClauses() {
        edge("FAULT 3: an 11th CLAUSE", BondOfficeRuleEdges::clause11);
        edge("FAULT 3: at its first byte", BondOfficeRuleEdges::clause11AtItsWord);
        edge("FAULTS: of one the least", BondOfficeRuleEdges::leastOfOne);
        edge("FAULTS: the first from the left", BondOfficeRuleEdges::firstFromTheLeft);
    }

    private static void places() {
        edge("13: NONE without", BondOfficeRuleEdges::faultWithout);
        edge("13: of the latest rule()", BondOfficeRuleEdges::faultOfTheLatest);
        edge("13: a rule() that throws is none", BondOfficeRuleEdges::faultBehindThrows);
        edge("13: the first and the last place", BondOfficeRuleEdges::faultPlaces);
    }

    private static void forces() {
        edge("14: the greatest DAY that is not later", BondOfficeRuleEdges::forceOfTheGreatestDay);
        edge("14: of these the one told last", BondOfficeRuleEdges::forceOfTheLastTold);
        edge("14: NONE", BondOfficeRuleEdges::forceOfNone);
        edge("14: DAYS far away", BondOfficeRuleEdges::forceOfFarDays);
        edge("14: of 20 RULES", BondOfficeRuleEdges::forceOf20);
    }

    private static BondOffice fed(int times) {
        BondOffice x = new BondOffice();
        for (int i = 1; i <= times; i++) {
            // "    " five times: a text of blanks has no fault.
            due("feed", x.feed(0x20202020, 0x20202020, 0x20202020, 0x20202020, 0x20202020), 20 * i);
        }
        return x;
    }

    private static void feedBeyond400() {
        BondOffice x = fed(19);
        due("the 400th byte", x.feed(0, 0, 0, 0, 0), 400);
        keeps(x, "a 401st byte", NONE, () -> x.feed(1, 1, 1, 1, 1));
        due("bytes", x.count(10), 400);
        x.rule(0, 0);
        due("when it is empty", x.feed(0, 0, 0, 0, 0), 20);
    }

    private static void feedHighestFirst() {
        BondOffice x = new BondOffice();
        // "fund", "12/3", ";tie", "r4x5", ";   "
        due("feed", x.feed(0x66756E64, 0x31322F33, 0x3B746965, 0x72347835, 0x3B202020), 20);
        due("rule", x.rule(20, 0), 0);
        BondOffice y = new BondOffice();
        y.feed(0x646E7566, 0x332F3231, 0, 0, 0);
        due("the lowest first", y.rule(8, 0), -9);
    }

    private static void feedHighBytes() {
        BondOffice x = new BondOffice();
        due("feed", x.feed(-1, MIN, MAX, 0x20202080, 0xE4E46461), 20);
        due("rule", x.rule(20, 0), -9);
        due("fault", x.fault(), 0);
        x.feed(0x64617973, 0x313B2020, 0x202020A0, 0, 0);
        due("a blank of 160", x.rule(12, 0), -9);
        due("fault", x.fault(), 11);
        x.feed(0x64617973, 0xB13B0000, 0, 0, 0);
        due("a digit and 128", x.rule(6, 0), -9);
        due("fault", x.fault(), 4);
    }

    private static void feedBehind() {
        BondOffice x = new BondOffice();
        // "days", then 16 blanks; "1;  ", then what the rule leaves
        due("feed", x.feed(0x64617973, 0x20202020, 0x20202020, 0x20202020, 0x20202020), 20);
        due("feed", x.feed(0x313B2020, 0, 0, 0, 0), 40);
        due("rule over both", x.rule(24, 0), 0);
    }

    private static void ruleOfTooManyBytes() {
        BondOffice x = fed(1);
        for (int n : new int[] {-1, 21, 400, 401, MIN, MAX}) {
            keeps(x, "rule of " + n, ARGUMENT, () -> x.rule(n, 0));
        }
        due("all bytes", x.rule(20, 0), 0);
        x.feed(0, 0, 0, 0, 0);
        due("no byte", x.rule(0, 0), 1);
        due("tape", x.count(10), 0);
    }

    private static void ruleOfAnEmptyTape() {
        BondOffice x = new BondOffice();
        keeps(x, "one byte", ARGUMENT, () -> x.rule(1, 0));
        keeps(x, "less than none", ARGUMENT, () -> x.rule(-1, 0));
        due("no byte", x.rule(0, 0), 0);
    }

    private static void ruleOfAFullTape() {
        BondOffice x = fed(20);
        keeps(x, "401 bytes", ARGUMENT, () -> x.rule(401, 0));
        due("400 bytes", x.rule(400, 0), 0);
        due("tape", x.count(10), 0);
    }

    private static void ruleOfNoSuchDay() {
        BondOffice x = fed(1);
        for (int day : new int[] {-1, 100_001, MIN, MAX}) {
            keeps(x, "day " + day, ARGUMENT, () -> x.rule(20, day));
        }
        due("day 100,000", x.rule(20, 100_000), 0);
        due("day 0", x.rule(0, 0), 1);
        due("force", x.force(99_999), 1);
        due("force", x.force(100_000), 0);
    }

    private static void ruleOfThePast() {
        BondOffice x = new BondOffice();
        x.wait(10);
        due("from day 9 on", x.rule(0, 9), 0);
        due("force on day 8", x.force(8), NONE);
        due("force on day 9", x.force(9), 0);
        due("force today", x.force(10), 0);
    }

    private static void ruleEmptiesTheTape() {
        BondOffice x = new BondOffice();
        feedText(x, "days 1;what");
        due("the first 7 of 20", x.rule(7, 0), 0);
        due("tape", x.count(10), 0);
        keeps(x, "nothing is left", ARGUMENT, () -> x.rule(1, 0));
        feedText(x, "days 2;");
        due("what is fed then stands alone", x.rule(7, 0), 1);
    }

    private static void ruleWithAFault() {
        String[] texts = {"what;", "tier 0x1;", TEN + "days1;"};
        int[] answers = {-9, -8, -7};
        int[] faults = {0, 5, 60};
        for (int i = 0; i < texts.length; i++) {
            BondOffice x = withHolders(1);
            x.buy(0, 3);
            tell(x, "days 1;", 0);
            x.noise(4);
            due("rule " + texts[i], tell(x, texts[i], 0), answers[i]);
            due("fault", x.fault(), faults[i]);
            due("tape", x.count(10), 0);
            due("rules", x.count(4), 1);
            due("force", x.force(0), 0);
            due("noise", x.count(9), 1);
            due("the next rule", tell(x, "days 2;", 0), 1);
            due("fault", x.fault(), NONE);
        }
    }

    private static BondOffice withRules(int n) {
        BondOffice x = new BondOffice();
        for (int i = 0; i < n; i++) {
            due("rule", x.rule(0, i), i);
        }
        return x;
    }

    private static void rule21() {
        BondOffice x = withRules(19);
        due("the 20th", x.rule(0, 19), 19);
        feedText(x, "days 1;");
        keeps(x, "a 21st", STATE, () -> x.rule(7, 0));
        keeps(x, "a 21st of no byte", STATE, () -> x.rule(0, 0));
        keeps(x, "a 21st with a fault", STATE, () -> x.rule(5, 0));
        due("rules", x.count(4), 20);
        due("tape", x.count(10), 20);
        due("force", x.force(100_000), 19);
    }

    private static void faultsAreNoRules() {
        BondOffice x = withRules(19);
        for (int i = 0; i < 5; i++) {
            due("a text with a fault", tell(x, ";", 0), -9);
        }
        due("the 20th", tell(x, "days 1;", 0), 19);
        feedText(x, ";");
        keeps(x, "a 21st", STATE, () -> x.rule(1, 0));
    }

    private static void ruleExceptionsInOrder() {
        BondOffice x = withRules(20);
        keeps(x, "too many bytes", ARGUMENT, () -> x.rule(1, 0));
        keeps(x, "less than no byte", ARGUMENT, () -> x.rule(-1, 0));
        keeps(x, "no such day", ARGUMENT, () -> x.rule(0, -1));
        keeps(x, "no such day", ARGUMENT, () -> x.rule(0, 100_001));
        keeps(x, "there are 20", STATE, () -> x.rule(0, 0));
    }

    private static void emptyTexts() {
        textDue("");
        textDue(" ");
        textDue(" ".repeat(400));
        faultDue(";", 1, 0);
        faultDue(" ;", 1, 1);
    }

    private static void manyDigits() {
        textDue("days " + "0".repeat(394) + ";");
        textDue("days " + "0".repeat(393) + "7;");
        textDue("days " + "0".repeat(384) + "1000000000;");
        faultDue("days " + "0".repeat(384) + "1000000001;", 2, 5);
        faultDue("days 1" + "0".repeat(393) + ";", 2, 5);
        faultDue("days " + "9".repeat(394) + ";", 2, 5);
        textDue("fund 0001/0001;");
        textDue("share 0000000000001 0100;");
        faultDue("share 1 0101;", 2, 8);
    }

    private static void signsNextToDigits() {
        textDue("days 0;");
        textDue("days 9;");
        faultDue("days /;", 1, 5);
        faultDue("days :;", 1, 5);
        faultDue("days 0/;", 1, 6);
        faultDue("days 9:;", 1, 6);
        faultDue("days +1;", 1, 5);
        faultDue("days -1;", 1, 5);
        faultDue("days 1,0;", 1, 6);
        faultDue("days 1_0;", 1, 6);
        faultDue("days 1L;", 1, 6);
        faultDue("days 1e1;", 1, 6);
    }

    private static void wordsWhole() {
        textDue("fund1/1;days1;tier1x1;share1 1;");
        faultDue("fun1/1;", 1, 0);
        faultDue("funds1/1;", 1, 0);
        faultDue("funddays1;", 1, 0);
        faultDue("day1;", 1, 0);
        faultDue("dayss1;", 1, 0);
        faultDue("tie1x1;", 1, 0);
        faultDue("tiers1x1;", 1, 0);
        faultDue("tierx1;", 1, 0);
        faultDue("shar1 1;", 1, 0);
        faultDue("shares1 1;", 1, 0);
        faultDue("sharea1 1;", 1, 0);
        faultDue("tier1xx1;", 1, 5);
        faultDue("tier1x x1;", 1, 7);
        faultDue("tier1xa1;", 1, 5);
        faultDue("tier1a1;", 1, 5);
        faultDue("x1;", 1, 0);
        faultDue("a".repeat(400), 1, 0);
    }

    private static void signsNextToLetters() {
        faultDue("days`1;", 1, 4);
        faultDue("days{1;", 1, 4);
        faultDue("daysa1;", 1, 0);
        faultDue("daysz1;", 1, 0);
        faultDue("daysA1;", 1, 4);
        faultDue("daysZ1;", 1, 4);
        faultDue("Days1;", 1, 0);
        faultDue("daYs1;", 1, 0);
        faultDue("`days1;", 1, 0);
        faultDue("{days1;", 1, 0);
        faultDue("tier1X1;", 1, 5);
        faultDue("tier1x`1;", 1, 6);
        faultDue("tier1x{1;", 1, 6);
    }

    private static void blanksAhead() {
        textDue(" fund 1 / 1 ; days 1 ; tier 1 x 1 ; share 1 1 ; ");
        textDue("   fund   1   /   1   ;   days   1   ;   tier   1   x   1   ;   share   1   1   ;   ");
        textDue("fund1/1;");
        textDue(" ".repeat(394) + "days1;");
        textDue("days1;" + " ".repeat(394));
        textDue("days" + " ".repeat(394) + "1;");
        faultDue(" ".repeat(399) + ";", 1, 399);
    }

    private static void otherBlanks() {
        for (char sign : new char[] {0, 9, 10, 13, 31, 33, 127, 160, 255}) {
            faultDue(sign + "days1;", 1, 0);
            faultDue("days" + sign + "1;", 1, 4);
            faultDue("days1" + sign + ";", 1, 5);
            faultDue("days1;" + sign, 1, 6);
            faultDue("share1" + sign + "1;", 1, 6);
        }
        textDue("days1; ");
    }

    private static void blankBetweenNumbers() {
        textDue("share 1 1;");
        textDue("share 1  1;");
        faultDue("share 11;", 1, 8);
        faultDue("share1;", 1, 6);
        textDue("share1 1;");
        // The 12 digits are one N that is too great, not an N of ten and one of two.
        faultDue("share 100000000010;", 2, 6);
    }

    private static void blanksWithin() {
        faultDue("fu nd1/1;", 1, 0);
        faultDue("d ays1;", 1, 0);
        faultDue("fund1 0/1;", 1, 6);
        faultDue("days1 0;", 1, 6);
        faultDue("tier1x1 0;", 1, 8);
        faultDue("share1 1 0;", 1, 9);
    }

    private static void semicolons() {
        textDue("days1;");
        faultDue("days1", 1, 5);
        faultDue("days1;;", 1, 6);
        faultDue(";days1;", 1, 0);
        faultDue("days1 days1;", 1, 6);
        faultDue("days1; ;", 1, 7);
        faultDue("fund1/1days1;", 1, 7);
        faultDue("days1:", 1, 5);
        faultDue("days1,", 1, 5);
    }

    private static void cantBegin() {
        faultDue("1;", 1, 0);
        faultDue("/;", 1, 0);
        faultDue("what;", 1, 0);
        faultDue("  what;", 1, 2);
        faultDue("days1;what;", 1, 6);
        faultDue("days1;  5;", 1, 8);
        faultDue("days1;x1;", 1, 6);
        faultDue("days1;fund1/1;/", 1, 14);
    }

    private static void cantStandInFund() {
        faultDue("fund;", 1, 4);
        faultDue("fund/1;", 1, 4);
        faultDue("fund x;", 1, 5);
        faultDue("fund fund1/1;", 1, 5);
        faultDue("fund1;", 1, 5);
        faultDue("fund1x1;", 1, 5);
        faultDue("fund1 1;", 1, 6);
        faultDue("fund1/;", 1, 6);
        faultDue("fund1//1;", 1, 6);
        faultDue("fund1/x;", 1, 6);
        faultDue("fund1/1/1;", 1, 7);
        faultDue("fund1/1 1;", 1, 8);
        faultDue("fund1/1x;", 1, 7);
    }

    private static void cantStandInDays() {
        faultDue("days;", 1, 4);
        faultDue("days/;", 1, 4);
        faultDue("days days1;", 1, 5);
        faultDue("days1/1;", 1, 5);
        faultDue("days1x1;", 1, 5);
        faultDue("days1 1;", 1, 6);
    }

    private static void cantStandInTier() {
        faultDue("tier;", 1, 4);
        faultDue("tier x1;", 1, 5);
        faultDue("tier1;", 1, 5);
        faultDue("tier1/1;", 1, 5);
        faultDue("tier1 1;", 1, 6);
        faultDue("tier1x;", 1, 6);
        faultDue("tier1x/1;", 1, 6);
        faultDue("tier1x1x1;", 1, 7);
        faultDue("tier1x1 1;", 1, 8);
    }

    private static void cantStandInShare() {
        faultDue("share;", 1, 5);
        faultDue("share/1;", 1, 5);
        faultDue("share1/1;", 1, 6);
        faultDue("share1x1;", 1, 6);
        faultDue("share1 ;", 1, 7);
        faultDue("share1 x1;", 1, 7);
        faultDue("share1 1/1;", 1, 8);
        faultDue("share1 1 1;", 1, 9);
    }

    /** Each text up to each of its ends; a word that stands half is another word. */
    private static void endsTooEarly() {
        String[] texts = {"fund 12/34;", "days 12;", "tier 12x34;", "share 12 34;"};
        for (String text : texts) {
            int word = text.indexOf(' ');
            textDue(text);
            textDue(text.substring(0, 0));
            for (int n = 1; n < word; n++) {
                faultDue(text.substring(0, n), 1, 0);
            }
            for (int n = word; n < text.length(); n++) {
                faultDue(text.substring(0, n), 1, n);
                faultDue(text.substring(0, n) + "  ", 1, n + 2);
                faultDue("days1; " + text.substring(0, n), 1, n + 7);
            }
        }
    }

    private static void endsWhereTold() {
        BondOffice x = new BondOffice();
        feedText(x, "days 123;");
        due("7 of the bytes", x.rule(7, 0), -9);
        due("fault", x.fault(), 7);
        feedText(x, "days 123;");
        due("8 of the bytes", x.rule(8, 0), -9);
        due("fault", x.fault(), 8);
        feedText(x, "days 1000000001;");
        due("the digits up to there alone", x.rule(14, 0), -9);
        due("fault", x.fault(), 14);
        feedText(x, "daysx");
        due("the letters up to there alone", x.rule(4, 0), -9);
        due("fault", x.fault(), 4);
        feedText(x, "days 1;what");
        due("what stands behind is nothing", x.rule(7, 0), 0);
    }

    private static void numbersAboveAll() {
        textDue("fund 1/1000000000;");
        faultDue("fund 1/1000000001;", 2, 7);
        textDue("days 1000000000;");
        faultDue("days 1000000001;", 2, 5);
        textDue("tier 1000000000x1;");
        faultDue("tier 1000000001x1;", 2, 5);
        textDue("tier 1x1000000000;");
        faultDue("tier 1x1000000001;", 2, 7);
        textDue("share 1000000000 1;");
        faultDue("share 1000000001 1;", 2, 6);
        faultDue("share 1 1000000001;", 2, 8);
        faultDue("fund 1000000001/1;", 2, 5);
    }

    private static void numbersThatWrap() {
        String[] numbers = {"2147483647", "2147483648", "4294967295", "4294967296", "4294967297",
            "9223372036854775807", "9223372036854775808", "18446744073709551615", "18446744073709551616",
            "18446744073709551617", "340282366920938463463374607431768211457"};
        for (String number : numbers) {
            faultDue("fund " + number + "/1;", 2, 5);
            faultDue("fund 1/" + number + ";", 2, 7);
            faultDue("days  " + number + ";", 2, 6);
            faultDue("tier " + number + "x1;", 2, 5);
            faultDue("tier 1x" + number + ";", 2, 7);
            faultDue("share " + number + " 1;", 2, 6);
            faultDue("share 1 " + number + ";", 2, 8);
        }
    }

    private static void firstOfFund() {
        textDue("fund 0/1;");
        textDue("fund 999999/1;");
        textDue("fund 1000000/1;");
        faultDue("fund 1000001/1;", 2, 5);
        faultDue("fund 1000000000/1;", 2, 5);
    }

    private static void secondOfFund() {
        faultDue("fund 1/0;", 2, 7);
        faultDue("fund 1/ 000;", 2, 8);
        faultDue("fund 0/0;", 2, 7);
        textDue("fund 1/1;");
        textDue("fund 1/1000001;");
    }

    private static void firstOfTier() {
        faultDue("tier 0x1;", 2, 5);
        faultDue("tier  00x1;", 2, 6);
        textDue("tier 1x1;");
    }

    private static void firstOfShare() {
        faultDue("share 0 1;", 2, 6);
        faultDue("share  00 1;", 2, 7);
        textDue("share 1 1;");
    }

    private static void secondOfShare() {
        textDue("share 1 0;");
        textDue("share 1 99;");
        textDue("share 1 100;");
        faultDue("share 1 101;", 2, 8);
        faultDue("share 1 1000000000;", 2, 8);
        textDue("share 101 1;");
    }

    private static void zerosThatMayBe() {
        textDue("fund 0/1;");
        textDue("days 0;");
        textDue("tier 1x0;");
        textDue("share 1 0;");
        textDue("days 00;");
    }

    private static void clause11() {
        textDue("days1;".repeat(9));
        textDue(TEN);
        textDue(TEN + "   ");
        textDue("fund1/1;days1;tier1x1;share1 1;fund1/1;days1;tier1x1;share1 1;fund1/1;days1;");
        faultDue(TEN + "days1;", 3, 60);
        faultDue(TEN + "fund1/1;", 3, 60);
        faultDue(TEN + "tier1x1;", 3, 60);
        faultDue(TEN + "share1 1;", 3, 60);
        faultDue("days1;".repeat(12), 3, 60);
    }

    private static void clause11AtItsWord() {
        faultDue(TEN + "   days1;", 3, 63);
        faultDue(" " + TEN + " fund1/1;", 3, 62);
        faultDue(TEN + "tier", 3, 60);
        faultDue(TEN + "tier0x1;", 3, 60);
        faultDue(TEN + "days1", 3, 60);
        faultDue(TEN + "share;", 3, 60);
    }

    private static void leastOfOne() {
        faultDue(TEN + "what1;", 1, 60);
        faultDue(TEN + "dayss1;", 1, 60);
        faultDue(TEN + "1000000001;", 1, 60);
        faultDue(TEN + ";", 1, 60);
        faultDue(TEN + "x", 1, 60);
        faultDue("1000000001;", 1, 0);
        faultDue("days 1 1000000001;", 1, 7);
        faultDue("fund 1 0;", 1, 7);
        faultDue("share 1 1 101;", 1, 10);
    }

    private static void firstFromTheLeft() {
        faultDue("tier 0x1000000001;", 2, 5);
        faultDue("tier 0x", 2, 5);
        faultDue("tier 0", 2, 5);
        faultDue("tier 0y1;", 2, 5);
        faultDue("fund 1/0x;", 2, 7);
        faultDue("fund x/0;", 1, 5);
        faultDue("days x;tier 0x1;", 1, 5);
        faultDue("share 0 101;", 2, 6);
        faultDue("tier 0x1;what;", 2, 5);
        faultDue("what;tier 0x1;", 1, 0);
        faultDue("tier0x1;" + TEN + "days1;", 2, 4);
        faultDue("days1;".repeat(9) + "days1" + "days1;", 1, 59);
        faultDue("days1;".repeat(9) + "tier0x1;days1;", 2, 58);
    }

    private static void faultWithout() {
        BondOffice x = new BondOffice();
        keeps(x, "no rule() yet", NONE, x::fault);
        tell(x, "days 1;", 0);
        keeps(x, "a rule without", NONE, x::fault);
        x.rule(0, 0);
        keeps(x, "a rule of no bytes", NONE, x::fault);
    }

    private static void faultOfTheLatest() {
        BondOffice x = new BondOffice();
        tell(x, "days 1;;", 0);
        due("the first", x.fault(), 7);
        tell(x, "days;", 0);
        due("the second", x.fault(), 4);
        feedText(x, "days 1;");
        due("what is fed changes nothing", x.fault(), 4);
        keeps(x, "asking twice", 4, x::fault);
        x.rule(7, 0);
        due("the third has none", x.fault(), NONE);
    }

    private static void faultBehindThrows() {
        BondOffice x = new BondOffice();
        tell(x, "days;", 0);
        keeps(x, "no such bytes", ARGUMENT, () -> x.rule(1, 0));
        keeps(x, "no such day", ARGUMENT, () -> x.rule(0, -1));
        due("fault", x.fault(), 4);
        for (int i = 0; i < 20; i++) {
            x.rule(0, 0);
        }
        keeps(x, "there are 20", STATE, () -> x.rule(0, 0));
        due("fault", x.fault(), NONE);
    }

    private static void faultPlaces() {
        faultDue("!", 1, 0);
        faultDue(" ".repeat(399) + "!", 1, 399);
        faultDue("days" + " ".repeat(396), 1, 400);
        faultDue("days " + "0".repeat(395), 1, 400);
    }

    private static void forceOfTheGreatestDay() {
        BondOffice x = new BondOffice();
        x.rule(0, 10);
        x.rule(0, 20);
        x.rule(0, 15);
        due("a day ahead of all", x.force(9), NONE);
        due("the first day of one", x.force(10), 0);
        due("its last", x.force(14), 0);
        due("the first day of the next, told last", x.force(15), 2);
        due("its last", x.force(19), 2);
        due("the first day of the last", x.force(20), 1);
        due("a day behind", x.force(21), 1);
    }

    private static void forceOfTheLastTold() {
        BondOffice x = new BondOffice();
        x.rule(0, 10);
        x.rule(0, 5);
        x.rule(0, 10);
        x.rule(0, 5);
        due("of two on day 5", x.force(5), 3);
        due("of two on day 10", x.force(10), 2);
        x.rule(0, 10);
        due("of three on day 10", x.force(10), 4);
        due("day 9", x.force(9), 3);
        x.rule(0, 0);
        due("one told later for an earlier day", x.force(10), 4);
        due("day 4", x.force(4), 5);
        tell(x, "what", 10);
        due("one with a fault", x.force(10), 4);
    }

    private static void forceOfNone() {
        BondOffice x = new BondOffice();
        keeps(x, "without rules", NONE, () -> x.force(0));
        x.rule(0, 1);
        keeps(x, "a day ahead", NONE, () -> x.force(0));
        keeps(x, "that day", 0, () -> x.force(1));
    }

    private static void forceOfFarDays() {
        BondOffice x = new BondOffice();
        x.rule(0, 0);
        x.rule(0, 100_000);
        keeps(x, "the least day", NONE, () -> x.force(MIN));
        keeps(x, "day -1", NONE, () -> x.force(-1));
        keeps(x, "day 0", 0, () -> x.force(0));
        keeps(x, "day 99,999", 0, () -> x.force(99_999));
        keeps(x, "day 100,000", 1, () -> x.force(100_000));
        keeps(x, "day 100,001", 1, () -> x.force(100_001));
        keeps(x, "the greatest day", 1, () -> x.force(MAX));
    }

    private static void forceOf20() {
        BondOffice x = withRules(20);
        for (int i = 0; i < 20; i++) {
            due("day " + i, x.force(i), i);
        }
        due("day 20", x.force(20), 19);
    }
}
