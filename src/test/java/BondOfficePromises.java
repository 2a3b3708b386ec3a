import java.lang.reflect.Constructor;
import java.lang.reflect.Field;
import java.lang.reflect.Method;
import java.lang.reflect.Modifier;
import java.util.Arrays;
import java.util.TreeSet;

/** At least one test for each promise of the document; the answers were worked out by hand from its words. */
public final class BondOfficePromises extends OfficeTest {
    public static void main(String[] args) {
        theFace();
        theClassesInside();
        promise1NewObject();
        promise2Holder();
        promise3Buy();
        promise3BuyLimits();
        promise4Give();
        promise4GiveOverManyLines();
        promise4GiveLimits();
        promise5Cash();
        promise6Died();
        promise6DiedWins();
        promise7Held();
        promise8Has();
        promise9Line();
        promise10Wait();
        promise11Feed();
        promise12Rule();
        promise12Texts();
        promise12Faults();
        promise12FaultsOfNumbers();
        promise12EleventhClause();
        promise13Fault();
        promise14Force();
        promise15Noise();
        promise16Draw();
        promise16Refusals();
        promise16Days();
        promise16Mix();
        promise16Prizes();
        promise16GreatFund();
        promise16ManyDraws();
        promise17Drawn();
        promise18Win();
        promise19Claim();
        promise19Lapse();
        promise20Paid();
        promise21Carried();
        promise22Count();
        end();
    }

    private static void theFace() {
        Class<?> face = BondOffice.class;
        TreeSet<String> methods = new TreeSet<>();
        for (Method m : face.getDeclaredMethods()) {
            if (!Modifier.isPrivate(m.getModifiers())) {
                methods.add(m.getReturnType() + " " + m.getName() + Arrays.toString(m.getParameterTypes())
                        + thrownBy(m));
                due(m.getName() + " is public and not static", m.getModifiers(), Modifier.PUBLIC);
            }
        }
        TreeSet<String> told = new TreeSet<>(Arrays.asList("int holder[] State",
                "int buy[int, int] Index Argument State", "int give[int, int, int, int] Index Argument State",
                "int cash[int, int, int] Index State", "int died[int, int] Index Argument State",
                "int held[int, int]", "int has[int] Index", "int line[int, int] Index Argument",
                "int wait[int] Argument", "int feed[int, int, int, int, int]", "int rule[int, int] Argument State",
                "int fault[]", "int force[int]", "int noise[int]", "int draw[]", "long drawn[int, int] Index Argument",
                "int win[int, int] Index Argument", "int claim[int] Index", "long paid[int] Index", "long carried[]",
                "int count[int]"));
        due("the methods are the told ones", methods.equals(told) ? 1 : 0, 1);
        for (Field f : face.getDeclaredFields()) {
            boolean isNone = f.getName().equals("NONE");
            due(f.getName() + " is seen from outside", Modifier.isPrivate(f.getModifiers()) ? 0 : 1, isNone ? 1 : 0);
        }
        Constructor<?>[] made = face.getConstructors();
        due("constructors", face.getDeclaredConstructors().length, 1);
        due("public constructors", made.length, 1);
        due("the class is public and final", face.getModifiers(), Modifier.PUBLIC | Modifier.FINAL);
        due("NONE", BondOffice.NONE, -1);
    }

    private static String thrownBy(Method method) {
        StringBuilder text = new StringBuilder();
        for (Class<?> kind : method.getExceptionTypes()) {
            text.append(kind == INDEX ? " Index" : kind == ARGUMENT ? " Argument" : kind == STATE ? " State" : " ?");
        }
        return text.toString();
    }

    /** LANGUAGE.md, rule 1, as far as the compiled class shows it. */
    private static void theClassesInside() {
        TreeSet<String> open = new TreeSet<>();
        for (Method m : BondOffice.class.getMethods()) {
            if (m.getDeclaringClass() == BondOffice.class) {
                open.add(m.getName());
            }
        }
        dueOtherNames(BondOffice.class, open);
        for (Class<?> inside : BondOffice.class.getDeclaredClasses()) {
            int seen = inside.getModifiers();
            due(inside + " is static", Modifier.isStatic(seen) ? 1 : 0, 1);
            due(inside + " is seen from outside", Modifier.isPublic(seen) || Modifier.isProtected(seen) ? 1 : 0, 0);
            dueOtherNames(inside, open);
        }
    }

    private static void dueOtherNames(Class<?> one, TreeSet<String> open) {
        for (Method m : one.getDeclaredMethods()) {
            if (Modifier.isPrivate(m.getModifiers()) && open.contains(m.getName())) {
                fail("a private method of " + one + " bears the name of a public one: " + m.getName());
            }
        }
    }

    private static void promise1NewObject() {
        BondOffice x = new BondOffice();
        for (int what = 0; what <= 10; what++) {
            due("count(" + what + ") of a new object", x.count(what), 0);
        }
        due("carried() of a new object", x.carried(), 0);
        due("fault() of a new object", x.fault(), NONE);
        due("force(0) of a new object", x.force(0), NONE);
        due("held(0, 0) of a new object", x.held(0, 0), NONE);
        x.holder();
        BondOffice other = new BondOffice();
        due("another object has its own holders", other.count(0), 0);
    }

    private static void promise2Holder() {
        BondOffice x = new BondOffice();
        for (int i = 0; i < 60; i++) {
            due("holder()", x.holder(), i);
        }
        dueThrow("61st holder()", STATE, x::holder);
        due("holders", x.count(0), 60);
        x.died(59, 0);
        dueThrow("holder() when one died", STATE, x::holder);
    }

    private static void promise3Buy() {
        BondOffice x = withHolders(2);
        due("buy", x.buy(0, 1), 0);
        x.wait(3);
        due("buy", x.buy(1, 10_000_000), 1);
        due("buy", x.buy(0, 7), 10_000_001);
        lineDue(x, 0, 0, 0, 0, 0, NONE);
        lineDue(x, 1, 1, 10_000_000, 1, 3, NONE);
        lineDue(x, 2, 10_000_001, 10_000_007, 0, 3, NONE);
        dueThrow("buy(2, 0)", INDEX, () -> x.buy(2, 0));
        dueThrow("buy(-1, 1)", INDEX, () -> x.buy(-1, 1));
        dueThrow("buy(0, 0)", ARGUMENT, () -> x.buy(0, 0));
        dueThrow("buy(0, -1)", ARGUMENT, () -> x.buy(0, -1));
        dueThrow("buy(0, 10000001)", ARGUMENT, () -> x.buy(0, 10_000_001));
        x.died(0, 1);
        dueThrow("buy of one that died", STATE, () -> x.buy(0, 1));
        dueThrow("buy of nothing of one that died", ARGUMENT, () -> x.buy(0, 0));
        due("bonds sold", x.count(1), 10_000_008);
    }

    private static void promise3BuyLimits() {
        BondOffice x = withHolders(3);
        for (int i = 0; i < 99; i++) {
            x.buy(0, 10_000_000);
        }
        due("buy", x.buy(0, 9_999_999), 990_000_000);
        due("buy of two when one is left", x.buy(0, 2), -1);
        due("bonds sold", x.count(1), 999_999_999);
        due("buy of the last one", x.buy(0, 1), 999_999_999);
        due("buy when none is left", x.buy(0, 1), -1);
        due("bonds sold", x.count(1), 1_000_000_000);
        due("bonds held", x.count(2), 1_000_000_000);
        due("has", x.has(0), 1_000_000_000);
        due("lines", x.count(3), 101);
        due("the last one is held", x.held(999_999_999, 0), 0);
        due("none behind it is", x.held(1_000_000_000, 0), NONE);
        due("give all", x.give(0, 0, 999_999_999, 1), 1);
        due("lines", x.count(3), 202);
        due("cash all", x.cash(1, 0, 999_999_999), 1_000_000_000);
        due("bonds held", x.count(2), 0);
        due("cashed ones are not sold again", x.buy(2, 1), -1);

        BondOffice y = filledTo(1_500);
        due("buy of a 1,501st line", y.buy(0, 1), -2);
        due("nothing changes", y.count(1), 100);
        BondOffice z = filledTo(1_499);
        due("buy of the 1,500th line", z.buy(0, 1), 100);
        due("lines", z.count(3), 1_500);
    }

    private static void promise4Give() {
        BondOffice x = withHolders(3);
        x.buy(0, 10);
        x.wait(4);
        due("give from the middle", x.give(0, 3, 6, 1), 1);
        due("lines", x.count(3), 4);
        lineDue(x, 0, 0, 9, 0, 0, 4);
        lineDue(x, 1, 0, 2, 0, 0, NONE);
        lineDue(x, 2, 7, 9, 0, 0, NONE);
        lineDue(x, 3, 3, 6, 1, 4, NONE);
        x.wait(1);
        due("give a whole line", x.give(1, 3, 6, 2), 1);
        due("lines", x.count(3), 5);
        lineDue(x, 3, 3, 6, 1, 4, 5);
        lineDue(x, 4, 3, 6, 2, 5, NONE);
        due("give with a hole", x.give(0, 0, 9, 1), -1);
        due("give ahead of the first", x.give(0, -1, 2, 1), -1);
        due("give behind the last", x.give(0, 7, 10, 1), -1);
        due("give another one's", x.give(1, 0, 2, 2), -1);
        due("give with a above b", x.give(0, 2, 1, 1), -1);
        due("give with a far above b", x.give(0, Integer.MAX_VALUE, Integer.MIN_VALUE, 1), -1);
        due("give all that there could be", x.give(0, Integer.MIN_VALUE, Integer.MAX_VALUE, 1), -1);
        due("give far ahead", x.give(0, Integer.MIN_VALUE, Integer.MIN_VALUE, 1), -1);
        due("give far behind", x.give(0, Integer.MAX_VALUE, Integer.MAX_VALUE, 1), -1);
        due("nothing changes", x.count(3), 5);
        dueThrow("give from no holder", INDEX, () -> x.give(3, 0, 1, 0));
        dueThrow("give to no holder", INDEX, () -> x.give(0, 0, 1, 3));
        dueThrow("give to no holder", INDEX, () -> x.give(0, 0, 1, -1));
        dueThrow("give from and to no holder", INDEX, () -> x.give(3, 0, 1, 3));
        dueThrow("give to itself", ARGUMENT, () -> x.give(0, 0, 1, 0));
        x.died(2, 1);
        dueThrow("give to one that died", STATE, () -> x.give(0, 0, 1, 2));
        dueThrow("give from one that died", STATE, () -> x.give(2, 0, 1, 0));
        dueThrow("give from one that died to itself", ARGUMENT, () -> x.give(2, 0, 1, 2));
        dueThrow("give what it hasn't to one that died", STATE, () -> x.give(0, 5, 1, 2));
    }

    /** The lines come in an order that is not that of their bonds. */
    private static void promise4GiveOverManyLines() {
        BondOffice x = withHolders(2);
        x.buy(0, 10);
        x.wait(1);
        x.buy(0, 10);
        x.wait(1);
        x.give(0, 0, 4, 1);
        x.wait(1);
        x.give(1, 0, 4, 0);
        lineDue(x, 2, 5, 9, 0, 0, NONE);
        lineDue(x, 4, 0, 4, 0, 3, NONE);
        x.wait(1);
        due("give over three lines", x.give(0, 2, 15, 1), 1);
        due("lines", x.count(3), 10);
        lineDue(x, 1, 10, 19, 0, 1, 4);
        lineDue(x, 2, 5, 9, 0, 0, 4);
        lineDue(x, 4, 0, 4, 0, 3, 4);
        lineDue(x, 5, 16, 19, 0, 1, NONE);
        lineDue(x, 6, 10, 15, 1, 4, NONE);
        lineDue(x, 7, 5, 9, 1, 4, NONE);
        lineDue(x, 8, 0, 1, 0, 3, NONE);
        lineDue(x, 9, 2, 4, 1, 4, NONE);
        due("has", x.has(0), 6);
        due("has", x.has(1), 14);
    }

    private static void promise4GiveLimits() {
        BondOffice x = filledTo(1_499);
        due("give that makes two lines", x.give(0, 0, 1, 2), -2);
        due("nothing changes", x.count(3), 1_499);
        due("nothing changes", x.held(0, 0), 0);
        due("what it hasn't comes first", x.give(1, 0, 1, 2), -1);
        due("give that makes one line", x.give(0, 0, 0, 2), 1);
        due("lines", x.count(3), 1_500);
        due("give that makes a 1,501st line", x.give(0, 1, 1, 2), -2);
        due("cash makes none", x.cash(0, 1, 5), 5);
        due("lines", x.count(3), 1_500);

        int[][] spans = {{100, 101}, {108, 109}, {104, 105}};
        int[] made = {2, 2, 3};
        for (int i = 0; i < spans.length; i++) {
            BondOffice y = filledTo(1_400);
            y.buy(2, 10);
            y.give(1, 0, 98 - made[i], 2);
            due("lines", y.count(3), 1_500 - made[i]);
            due("give that just fits", y.give(2, spans[i][0], spans[i][1], 0), 1);
            due("lines", y.count(3), 1_500);
            BondOffice z = filledTo(1_400);
            z.buy(2, 10);
            z.give(1, 0, 99 - made[i], 2);
            due("lines", z.count(3), 1_501 - made[i]);
            due("give that just does not fit", z.give(2, spans[i][0], spans[i][1], 0), -2);
            due("nothing changes", z.has(0), 0);
        }
    }

    private static void promise5Cash() {
        BondOffice x = withHolders(2);
        x.buy(0, 10);
        x.buy(0, 10);
        x.wait(2);
        due("cash over two lines", x.cash(0, 8, 12), 5);
        due("lines", x.count(3), 4);
        lineDue(x, 0, 0, 9, 0, 0, 2);
        lineDue(x, 1, 10, 19, 0, 0, 2);
        lineDue(x, 2, 0, 7, 0, 0, NONE);
        lineDue(x, 3, 13, 19, 0, 0, NONE);
        due("cash what is cashed", x.cash(0, 8, 8), -1);
        due("cash with a hole", x.cash(0, 7, 13), -1);
        due("cash with a above b", x.cash(0, 1, 0), -1);
        due("cash another one's", x.cash(1, 0, 0), -1);
        due("cash all that there could be", x.cash(0, Integer.MIN_VALUE, Integer.MAX_VALUE), -1);
        due("cash one", x.cash(0, 0, 0), 1);
        due("bonds sold", x.count(1), 20);
        due("bonds held", x.count(2), 14);
        due("held ahead", x.held(8, 1), 0);
        due("held no more", x.held(8, 2), NONE);
        due("the next ones are sold", x.buy(1, 1), 20);
        dueThrow("cash of no holder", INDEX, () -> x.cash(2, 0, 0));
        dueThrow("cash of no holder", INDEX, () -> x.cash(-1, 0, 0));
        x.died(0, 1);
        dueThrow("cash of one that died", STATE, () -> x.cash(0, 1, 1));
        due("cash of the heir", x.cash(1, 1, 7), 7);

        BondOffice z = filledTo(1_400);
        z.buy(2, 10);
        z.give(1, 0, 97, 2);
        due("lines", z.count(3), 1_499);
        due("cash from the middle makes two lines", z.cash(2, 105, 105), -2);
        due("nothing changes", z.has(2), 108);
        due("cash what it hasn't comes first", z.cash(2, 99, 105), -1);
        due("cash from the end makes one line", z.cash(2, 105, 109), 5);
        due("lines", z.count(3), 1_500);
        due("cash from the end makes a 1,501st line", z.cash(2, 104, 104), -2);
    }

    private static void promise6Died() {
        BondOffice x = withHolders(3);
        x.buy(0, 10);
        x.buy(1, 10);
        x.buy(0, 10);
        x.wait(1);
        x.give(0, 0, 4, 1);
        x.give(1, 0, 4, 0);
        x.wait(1);
        due("died", x.died(0, 2), 3);
        due("lines", x.count(3), 9);
        lineDue(x, 0, 0, 9, 0, 0, 1);
        lineDue(x, 2, 20, 29, 0, 0, 2);
        lineDue(x, 3, 5, 9, 0, 0, 2);
        lineDue(x, 5, 0, 4, 0, 1, 2);
        lineDue(x, 6, 20, 29, 2, 2, NONE);
        lineDue(x, 7, 5, 9, 2, 2, NONE);
        lineDue(x, 8, 0, 4, 2, 2, NONE);
        due("has", x.has(0), 0);
        due("has", x.has(2), 20);
        due("has", x.has(1), 10);
        dueThrow("died of no holder", INDEX, () -> x.died(3, 0));
        dueThrow("died with no heir", INDEX, () -> x.died(1, 3));
        dueThrow("died with itself", ARGUMENT, () -> x.died(1, 1));
        dueThrow("died of one that died, with itself", ARGUMENT, () -> x.died(0, 0));
        dueThrow("died again", STATE, () -> x.died(0, 1));
        dueThrow("an heir that died", STATE, () -> x.died(1, 0));
        due("died", x.died(2, 1), 3);
        due("died with an heir", x.has(1), 30);

        BondOffice first = withHolders(2);
        first.buy(0, 5);
        tell(first, "fund 1/1;tier 5x1;", 0);
        noises(first, 0, 0);
        first.draw();
        due("died with the very first line", first.died(0, 1), 1);
        lineDue(first, 0, 0, 4, 0, 0, 0);
        lineDue(first, 1, 0, 4, 1, 0, NONE);
        due("the very first win is inherited", first.win(0, 2), 1);

        BondOffice poor = withHolders(2);
        due("died with nothing", poor.died(0, 1), 0);
        dueThrow("it can't have anything any more", STATE, () -> poor.buy(0, 1));

        BondOffice y = filledTo(1_499);
        due("died that makes too many lines", y.died(0, 2), -2);
        due("nothing changes", y.count(3), 1_499);
        due("nothing changes", y.has(0), 99);
        due("nothing changes: it is alive", y.give(0, 0, 0, 2), 1);
        BondOffice z = filledTo(1_400);
        due("died that makes just enough lines", z.died(1, 2), 100);
        due("lines", z.count(3), 1_500);
        due("died of one without lines", z.died(0, 2), 0);
    }

    private static void promise6DiedWins() {
        BondOffice x = withHolders(3);
        x.buy(0, 2);
        tell(x, "fund 10/1; tier 5x2;", 0);
        noises(x, 0, 0);
        x.draw();
        due("claim", x.claim(0), 5);
        x.wait(501);
        due("wins are open until a draw", x.win(1, 4), 0);
        noises(x, 0, 0);
        x.draw();
        due("the old one lapsed", x.win(1, 4), 2);
        due("wins", x.count(6), 4);
        due("died", x.died(0, 1), 1);
        due("claimed ones stay", x.win(0, 2), 0);
        due("lapsed ones stay", x.win(1, 2), 0);
        due("open ones go", x.win(2, 2), 1);
        due("open ones go", x.win(3, 2), 1);
        due("claim of the heir", x.claim(2), 5);
        due("paid to the heir", x.paid(1), 5);
        due("paid to the one that died", x.paid(0), 5);
        x.wait(501);
        x.died(1, 2);
        due("old ones that did not lapse yet go too", x.win(3, 2), 2);
        due("claimed ones stay with the heir", x.win(2, 2), 1);
    }

    private static void promise7Held() {
        BondOffice x = withHolders(3);
        x.wait(5);
        x.buy(0, 10);
        x.wait(5);
        x.give(0, 3, 5, 1);
        x.give(1, 4, 4, 2);
        x.wait(5);
        x.cash(2, 4, 4);
        x.died(1, 0);
        due("ahead of the first day", x.held(4, 4), NONE);
        due("on the first day", x.held(4, 5), 0);
        due("on the day ahead of giving", x.held(4, 9), 0);
        due("given twice in a day", x.held(4, 10), 2);
        due("given once", x.held(3, 10), 1);
        due("ahead of cashing", x.held(4, 14), 2);
        due("cashed", x.held(4, 15), NONE);
        due("cashed for good", x.held(4, 100_000), NONE);
        due("ahead of death", x.held(5, 14), 1);
        due("inherited", x.held(5, 15), 0);
        due("days to come", x.held(5, Integer.MAX_VALUE), 0);
        due("what was not given", x.held(2, 5), 0);
        due("what was not given", x.held(6, 12), 0);
        due("day below 0", x.held(0, -1), NONE);
        due("day below 0", x.held(0, Integer.MIN_VALUE), NONE);
        due("no such bond", x.held(10, 15), NONE);
        due("no such bond", x.held(-1, 15), NONE);
        due("no such bond", x.held(Integer.MIN_VALUE, 15), NONE);
        due("no such bond", x.held(Integer.MAX_VALUE, 15), NONE);
    }

    private static void promise8Has() {
        BondOffice x = withHolders(2);
        due("has at first", x.has(0), 0);
        x.buy(0, 10);
        x.buy(1, 3);
        x.buy(0, 5);
        due("has", x.has(0), 15);
        x.give(0, 2, 4, 1);
        due("has less", x.has(0), 12);
        due("has more", x.has(1), 6);
        x.cash(1, 10, 10);
        due("has less", x.has(1), 5);
        dueThrow("has of no holder", INDEX, () -> x.has(2));
        dueThrow("has of no holder", INDEX, () -> x.has(-1));
        x.died(0, 1);
        due("has of one that died", x.has(0), 0);
        due("has of the heir", x.has(1), 17);
    }

    private static void promise9Line() {
        BondOffice x = withHolders(1);
        dueThrow("line(0, 0) without lines", INDEX, () -> x.line(0, 0));
        x.wait(7);
        x.buy(0, 4);
        lineDue(x, 0, 0, 3, 0, 7, NONE);
        x.wait(1);
        x.cash(0, 0, 3);
        lineDue(x, 0, 0, 3, 0, 7, 8);
        dueThrow("line(1, 0)", INDEX, () -> x.line(1, 0));
        dueThrow("line(-1, 0)", INDEX, () -> x.line(-1, 0));
        dueThrow("line(1, 5)", INDEX, () -> x.line(1, 5));
        dueThrow("line(0, 5)", ARGUMENT, () -> x.line(0, 5));
        dueThrow("line(0, -1)", ARGUMENT, () -> x.line(0, -1));
    }

    private static void promise10Wait() {
        BondOffice x = new BondOffice();
        due("wait(0)", x.wait(0), 0);
        dueThrow("wait(-1)", ARGUMENT, () -> x.wait(-1));
        dueThrow("wait(10001)", ARGUMENT, () -> x.wait(10_001));
        dueThrow("wait(MAX)", ARGUMENT, () -> x.wait(Integer.MAX_VALUE));
        for (int i = 1; i <= 9; i++) {
            due("wait(10000)", x.wait(10_000), i * 10_000);
        }
        due("wait(9999)", x.wait(9_999), 99_999);
        dueThrow("wait(2) at 99,999", ARGUMENT, () -> x.wait(2));
        due("nothing changes", x.count(8), 99_999);
        due("wait(1)", x.wait(1), 100_000);
        due("wait(0)", x.wait(0), 100_000);
        dueThrow("wait(1) at 100,000", ARGUMENT, () -> x.wait(1));
    }

    private static void promise11Feed() {
        BondOffice x = new BondOffice();
        for (int i = 1; i <= 20; i++) {
            due("feed", x.feed(0, 0, 0, 0, 0), 20 * i);
        }
        due("feed too much", x.feed(0, 0, 0, 0, 0), NONE);
        due("nothing changes", x.count(10), 400);
        x.rule(400, 0);
        due("feed when it is empty", x.feed(0, 0, 0, 0, 0), 20);

        BondOffice y = new BondOffice();
        // "days" " 123" "4567" ";tie" "r1x1", then ";"
        y.feed(0x64617973, 0x20313233, 0x34353637, 0x3B746965, 0x72317831);
        y.feed(0x3B000000, 0, 0, 0, 0);
        due("the highest byte comes first", y.rule(21, 0), 0);
    }

    private static void promise12Rule() {
        BondOffice x = new BondOffice();
        dueThrow("rule(1, 0) without a tape", ARGUMENT, () -> x.rule(1, 0));
        due("rule(0, 0) without a tape", x.rule(0, 0), 0);
        x.feed(0x64617973, 0x313B0000, 0, 0, 0);
        dueThrow("rule(-1, 0)", ARGUMENT, () -> x.rule(-1, 0));
        dueThrow("rule(21, 0)", ARGUMENT, () -> x.rule(21, 0));
        dueThrow("rule(6, -1)", ARGUMENT, () -> x.rule(6, -1));
        dueThrow("rule(6, 100001)", ARGUMENT, () -> x.rule(6, 100_001));
        due("the tape stays", x.count(10), 20);
        due("rule of the first bytes", x.rule(6, 100_000), 1);
        due("the tape is empty", x.count(10), 0);
        x.feed(0x64617973, 0x313B0000, 0, 0, 0);
        due("rule with bytes that can't stand there", x.rule(7, 0), -9);
        due("the tape is empty", x.count(10), 0);
        due("fault", x.fault(), 6);
        for (int i = 2; i < 20; i++) {
            due("rule(0, 5)", x.rule(0, 5), i);
        }
        x.feed(0, 0, 0, 0, 0);
        dueThrow("21st rule", STATE, () -> x.rule(0, 5));
        dueThrow("21st rule with a fault", STATE, () -> x.rule(20, 5));
        dueThrow("21st rule of too many bytes", ARGUMENT, () -> x.rule(21, 5));
        due("the tape stays", x.count(10), 20);
        due("rules", x.count(4), 20);
    }

    private static void promise12Texts() {
        textDue("");
        textDue("   ");
        textDue("fund 1/1;");
        textDue("fund1/1;days1;tier1x1;share1 1;");
        textDue("  fund  1  /  1  ;  days  1  ;  tier  1  x  1  ;  share  1  1  ;  ");
        textDue("fund 0/1;fund 1000000/1000000000;");
        textDue("days 0;days 1000000000;");
        textDue("tier 1x0;tier 1000000000x1000000000;");
        textDue("share 1 0;share 1000000000 100;");
        textDue("days 000000000000000000000000000000000000000001000000000;");
        textDue("days1;days1;days1;days1;days1;days1;days1;days1;days1;days1;");
        textDue("days1;days1;days1;days1;days1;days1;days1;days1;days1;days1;  ");
    }

    private static void promise12Faults() {
        faultDue(";", 1, 0);
        faultDue("  ;", 1, 2);
        faultDue("5", 1, 0);
        faultDue("fun 1/1;", 1, 0);
        faultDue("fun", 1, 0);
        faultDue("funds 1/1;", 1, 0);
        faultDue("fundz 1/1;", 1, 0);
        faultDue("afund 1/1;", 1, 0);
        faultDue("fund{1/1;", 1, 4);
        faultDue("fund`1/1;", 1, 4);
        faultDue("fund:/1;", 1, 4);
        faultDue(" Fund 1/1;", 1, 1);
        faultDue("fund", 1, 4);
        faultDue("fund ", 1, 5);
        faultDue("fund;", 1, 4);
        faultDue("fund  x", 1, 6);
        faultDue("fund 1", 1, 6);
        faultDue("fund 1;", 1, 6);
        faultDue("fund 1 2;", 1, 7);
        faultDue("fund 1/", 1, 7);
        faultDue("fund 1/;", 1, 7);
        faultDue("fund 1//2;", 1, 7);
        faultDue("fund 1/2", 1, 8);
        faultDue("fund 1/2  ", 1, 10);
        faultDue("fund 1/2 3;", 1, 9);
        faultDue("fund 1/2 fund 1/2;", 1, 9);
        faultDue("fund -1/2;", 1, 5);
        faultDue("fund 1/2;;", 1, 9);
        faultDue("days;", 1, 4);
        faultDue("days 1 2;", 1, 7);
        faultDue("days 1/2;", 1, 6);
        faultDue("days 1.5;", 1, 6);
        faultDue("tier 1;", 1, 6);
        faultDue("tier 1/2;", 1, 6);
        faultDue("tier 1 2;", 1, 7);
        faultDue("tier 1xx2;", 1, 6);
        faultDue("tier 1xy2;", 1, 6);
        faultDue("tier 1 X 2;", 1, 7);
        faultDue("tierx1;", 1, 0);
        faultDue("tier x1;", 1, 5);
        faultDue("tier 1x;", 1, 7);
        faultDue("share 12;", 1, 8);
        faultDue("share 1x2;", 1, 7);
        faultDue("share 1/2;", 1, 7);
        faultDue("share 1", 1, 7);
        faultDue("share 1 ", 1, 8);
        faultDue("share 1 2 3;", 1, 10);
        faultDue("days 1;\t", 1, 7);
        faultDue("days\u00b11;", 1, 4);
        faultDue("\u00ff", 1, 0);
        faultDue("days 1;\u0000", 1, 7);
    }

    private static void promise12FaultsOfNumbers() {
        faultDue("fund 1000001/1;", 2, 5);
        faultDue("fund 1000001", 2, 5);
        faultDue("fund 1/0;", 2, 7);
        faultDue("fund 1 / 00 ;", 2, 9);
        faultDue("fund 1/1000000001;", 2, 7);
        faultDue("fund 1000001/0;", 2, 5);
        faultDue("days 1000000001;", 2, 5);
        faultDue("days   9999999999999999999999999999;", 2, 7);
        faultDue("days 18446744073709551616;", 2, 5);
        faultDue("days 4294967296;", 2, 5);
        faultDue("tier 0x1;", 2, 5);
        faultDue("tier 1000000001x1;", 2, 5);
        faultDue("tier 1x1000000001;", 2, 7);
        faultDue("share 0 1;", 2, 6);
        faultDue("share 1000000001 1;", 2, 6);
        faultDue("share 1 101;", 2, 8);
        faultDue("share 1 101", 2, 8);
        faultDue("days 1;share 0", 2, 13);
        faultDue("tier 0", 2, 5);
    }

    private static void promise12EleventhClause() {
        String ten = "days1;days1;days1;days1;days1;days1;days1;days1;days1;days1;";
        faultDue(ten + "days1;", 3, 60);
        faultDue(ten + "  fund 1/0;", 3, 62);
        faultDue(ten + "share", 3, 60);
        faultDue(ten + "what 1;", 1, 60);
        faultDue(ten + ";", 1, 60);
        faultDue(ten + "days1;what;", 3, 60);
        faultDue("days1;tier0x1;" + ten, 2, 10);
    }

    private static void promise13Fault() {
        BondOffice x = new BondOffice();
        due("fault() at first", x.fault(), NONE);
        tell(x, "days 1;;", 0);
        due("fault()", x.fault(), 7);
        due("fault() again", x.fault(), 7);
        feedText(x, "days 1;");
        due("fault() when fed", x.fault(), 7);
        x.rule(7, 0);
        due("fault() of a rule without", x.fault(), NONE);
        tell(x, "", 0);
        due("fault() of no text", x.fault(), NONE);
        tell(x, "x", 0);
        due("fault()", x.fault(), 0);
    }

    private static void promise14Force() {
        BondOffice x = new BondOffice();
        tell(x, "days 1;", 10);
        tell(x, "days 2;", 5);
        tell(x, "days 3;", 10);
        tell(x, "days 4;", 20);
        tell(x, "days 5;", 5);
        due("force(4)", x.force(4), NONE);
        due("force(5)", x.force(5), 4);
        due("force(9)", x.force(9), 4);
        due("force(10)", x.force(10), 2);
        due("force(19)", x.force(19), 2);
        due("force(20)", x.force(20), 3);
        due("force(MAX)", x.force(Integer.MAX_VALUE), 3);
        due("force(-1)", x.force(-1), NONE);
        due("force(MIN)", x.force(Integer.MIN_VALUE), NONE);
        tell(x, "days 6;", 0);
        due("force(0)", x.force(0), 5);
        tell(x, "what;", 0);
        due("a text with a fault is no rule", x.force(0), 5);
    }

    private static void promise15Noise() {
        BondOffice x = new BondOffice();
        for (int i = 1; i <= 20; i++) {
            due("noise", x.noise(i), i);
        }
        due("21st noise", x.noise(0), NONE);
        due("nothing changes", x.count(9), 20);
    }

    private static void promise16Draw() {
        BondOffice x = withHolders(2);
        x.buy(0, 10);
        x.buy(1, 5);
        tell(x, "fund 10/3; tier 7x2; share 5 50;", 0);
        noises(x, 1, 2);
        due("draw", x.draw(), 0);
        // MIX 31: 1, then 33 by 15: 3. MIX 37: 1, then 39 by 15: 9; 10 has 5 in common with 15, 11 nothing.
        drawDue(x, 0, 0, 0, 15, 3, 11, 50, 7, 0, 11);
        winDue(x, 0, 0, 3, 0, 7, 0);
        winDue(x, 1, 0, 14, 1, 7, 0);
        winDue(x, 2, 0, 10, 1, 5, 0);
        winDue(x, 3, 0, 6, 0, 5, 0);
        winDue(x, 4, 0, 2, 0, 5, 0);
        winDue(x, 5, 0, 13, 1, 5, 0);
        winDue(x, 6, 0, 9, 0, 5, 0);
        due("noise is empty", x.count(9), 0);
        due("wins", x.count(6), 7);

        // Lines that came in another order than their bonds, and some cashed.
        x.wait(1);
        x.give(0, 0, 1, 1);
        x.cash(0, 5, 7);
        x.died(1, 0);
        noises(x, 0, 3);
        due("draw", x.draw(), 1);
        // Held: 0 to 4, 8 to 14; FUND 12 times 10 by 3, and 11.
        drawDue(x, 1, 1, 0, 12, 3, 5, 51, 7, 7, 12);
        winDue(x, 7, 1, 3, 0, 7, 0);
        winDue(x, 8, 1, 11, 0, 7, 0);
        winDue(x, 9, 1, 1, 0, 5, 0);
        winDue(x, 10, 1, 9, 0, 5, 0);
        winDue(x, 11, 1, 14, 0, 5, 0);
        winDue(x, 12, 1, 4, 0, 5, 0);
        winDue(x, 13, 1, 12, 0, 5, 0);
    }

    private static void promise16Refusals() {
        BondOffice x = withHolders(2);
        due("draw without all", x.draw(), -1);
        tell(x, "days 5; fund 10/1; tier 5x1;", 3);
        due("draw ahead of the rule's day", x.draw(), -1);
        x.wait(3);
        due("draw without noise", x.draw(), -2);
        x.noise(7);
        due("draw with one noise", x.draw(), -2);
        x.noise(7);
        due("draw without bonds", x.draw(), -3);
        x.buy(0, 3);
        x.wait(4);
        due("draw with bonds too young", x.draw(), -3);
        due("noise stays", x.count(9), 2);
        due("draws", x.count(5), 0);
        x.wait(1);
        due("draw", x.draw(), 0);
        x.cash(0, 0, 2);
        noises(x, 1, 1);
        x.wait(501);
        due("draw when all are cashed", x.draw(), -3);
        due("a win does not lapse by that", x.win(0, 4), 0);
        due("nor is its sum carried", x.carried(), 25);
    }

    private static void promise16Days() {
        BondOffice x = withHolders(3);
        x.buy(0, 4);
        x.wait(2);
        x.buy(1, 4);
        x.wait(1);
        x.give(0, 1, 1, 2);
        tell(x, "days 1; fund 1/1; days 2; tier 1x50; days 0;", 0);
        x.wait(1);
        noises(x, 0, 0);
        due("draw", x.draw(), 0);
        // 0, 2 and 3 came on day 0 still; 4 to 7 on day 2; 1 on day 3 is too young, but counts for the fund.
        drawDue(x, 0, 4, 0, 7, 0, 1, 8, 7, 0, 1);
        winDue(x, 0, 0, 0, 0, 1, 0);
        winDue(x, 1, 0, 2, 0, 1, 0);
        winDue(x, 2, 0, 3, 0, 1, 0);
        winDue(x, 3, 0, 4, 1, 1, 0);
        winDue(x, 6, 0, 7, 1, 1, 0);
        tell(x, "days 1000000000;", 0);
        noises(x, 0, 0);
        due("draw when none is old enough", x.draw(), -3);
        tell(x, "", 0);
        due("draw with no days told", x.draw(), 1);
        drawDue(x, 1, 4, 2, 8, 0, 1, 1, 0, NONE, 1);
    }

    private static void promise16Mix() {
        BondOffice x = withHolders(1);
        x.buy(0, 1);
        tell(x, "fund 2/1;tier 1x3;", 0);
        noises(x, 5, -1);
        x.draw();
        drawDue(x, 0, 0, 0, 1, 0, 1, 2, 1, 0, 1);
        x.buy(0, 9);
        noises(x, -1, Integer.MIN_VALUE, 7);
        x.draw();
        // By 10: 4,294,967,295 leaves 5, 2,147,483,648 leaves 8; MIX 31: 5, 163: 3, 100: 0; MIX 37: 5, 193: 3, 118: 8.
        drawDue(x, 1, 0, 0, 10, 0, 9, 21, 3, 1, 18);
        winDue(x, 1, 1, 0, 0, 1, 0);
        winDue(x, 2, 1, 9, 0, 1, 0);
        winDue(x, 3, 1, 8, 0, 1, 0);
        noises(x, 0, 9);
        x.draw();
        // 1 and MIX is M itself: the next one without a divisor in common is M and 1.
        drawDue(x, 2, 0, 0, 10, 9, 11, 38, 3, 4, 35);
        winDue(x, 4, 2, 9, 0, 1, 0);
        winDue(x, 5, 2, 0, 0, 1, 0);
        winDue(x, 6, 2, 1, 0, 1, 0);
        noises(x, 1, 0, 0, 0, 0, 0, 0, 0, 0, 0, 0, 0, 0, 0, 0, 0, 0, 0, 0, 3);
        x.draw();
        // 31 to the 19th leaves 1 by 10; 37 to the 19th leaves 3 (7 to the 19th), and 3: 6; 7 is free of 10.
        drawDue(x, 3, 0, 0, 10, 4, 7);
    }

    private static void promise16Prizes() {
        BondOffice x = withHolders(1);
        x.buy(0, 60);
        tell(x, "tier 10x2; fund 1/1; share 7 50; fund 81/100; tier 1000x5; share 1 100; tier 1x1;", 0);
        noises(x, 0, 0);
        x.draw();
        // FUND 60 and 48: 108. 2 of 10: 88; 54 by 7, 7 of 7: 39; none of 1,000; 39 of 1 (share of the whole FUND).
        due("fund", x.drawn(0, 5), 108);
        due("wins", x.drawn(0, 6), 48);
        due("carried", x.drawn(0, 8), 0);
        due("prize", x.win(1, 3), 10);
        due("prize", x.win(2, 3), 7);
        due("prize", x.win(8, 3), 7);
        due("prize", x.win(9, 3), 1);
        due("prize", x.win(47, 3), 1);

        tell(x, "fund 10/1; tier 2x49; share 3 100; tier 1x9;", 0);
        noises(x, 0, 0);
        x.draw();
        // 50 at most: 49 of 2, one of 3.
        due("wins", x.drawn(1, 6), 50);
        due("first win", x.drawn(1, 7), 48);
        due("carried", x.drawn(1, 8), 600 - 98 - 3);
        due("prize", x.win(48 + 49, 3), 3);

        dueShare(10_150, "share 1116 33;", 3);
        dueShare(20_199, "share 3333 33;", 1);
        dueShare(20_199, "share 6665 33;", 1);
        dueShare(20_199, "share 6666 33;", 0);
        dueShare(20_199, "share 20199 100;", 1);
        dueShare(20_199, "share 1 0;", 0);

        BondOffice few = withHolders(1);
        few.buy(0, 3);
        tell(few, "fund 10/1; tier 1x2; tier 4x2;", 0);
        noises(few, 0, 0);
        few.draw();
        due("wins are M at most", few.drawn(0, 6), 3);
        due("carried", few.carried(), 24);

        BondOffice poor = withHolders(1);
        poor.buy(0, 5);
        tell(poor, "fund 1/1; tier 3x4; tier 2x4; tier 1x4;", 0);
        noises(poor, 0, 0);
        poor.draw();
        due("as many as the fund has", poor.drawn(0, 6), 2);
        due("prize", poor.win(0, 3), 3);
        due("prize", poor.win(1, 3), 2);

        BondOffice none = withHolders(1);
        none.buy(0, 5);
        tell(none, "fund 0/1; tier 1x5; share 1 100; tier 1x0;", 0);
        noises(none, 0, 0);
        due("draw without a fund", none.draw(), 0);
        drawDue(none, 0, 0, 0, 5, 0, 1, 0, 0, NONE, 0);
    }

    private static void dueShare(int fund, String share, int wins) {
        BondOffice x = withHolders(1);
        x.buy(0, fund);
        tell(x, "fund 1/1;" + share, 0);
        noises(x, 0, 0);
        x.draw();
        due("fund", x.drawn(0, 5), fund);
        due("wins of " + share, x.drawn(0, 6), wins);
    }

    /** Carried so far that the fund times 100 is above every long. */
    private static void promise16GreatFund() {
        BondOffice x = withHolders(1);
        for (int i = 0; i < 100; i++) {
            x.buy(0, 10_000_000);
        }
        String fund = "fund1000000/1;";
        tell(x, fund.repeat(10), 0);
        for (int i = 0; i < 39; i++) {
            noises(x, 1, i);
            due("draw", x.draw(), i);
        }
        due("carried", x.carried(), 390_000_000_000_000_000L);
        tell(x, fund.repeat(6) + "fund 7/999;share 1000000000 99;", 0);
        noises(x, -1, -1);
        due("draw", x.draw(), 39);
        due("m", x.drawn(39, 2), 1_000_000_000);
        due("fund", x.drawn(39, 5), 396_000_000_000_000_000L + 7_007_007);
        due("wins", x.drawn(39, 6), 50);
        due("carried", x.carried(), 396_000_000_000_000_000L + 7_007_007 - 50_000_000_000L);
        // 294967295 times 32 by 1,000,000,000; times 38, and 1: 11208757211.
        due("start", x.drawn(39, 3), 438_953_440);
        due("step", x.drawn(39, 4), 208_757_211);
        due("bond", x.win(0, 1), 438_953_440);
        due("bond", x.win(3, 1), 65_225_073);
    }

    private static void promise16ManyDraws() {
        BondOffice x = withHolders(1);
        x.buy(0, 3);
        tell(x, "fund 1/1;tier 1x1;", 0);
        for (int i = 0; i < 40; i++) {
            noises(x, i, i + 1);
            due("draw", x.draw(), i);
            due("win", x.drawn(i, 7), i);
        }
        due("draw without noise comes first", x.draw(), -2);
        noises(x, 1, 2);
        x.wait(501);
        due("41st draw", x.draw(), -4);
        due("noise stays", x.count(9), 2);
        due("wins stay open", x.count(7), 40);
        x.cash(0, 0, 2);
        due("no bond comes first", x.draw(), -3);
        due("draws", x.count(5), 40);
    }

    private static void promise17Drawn() {
        BondOffice x = withHolders(1);
        dueThrow("drawn(0, 0) without draws", INDEX, () -> x.drawn(0, 0));
        x.buy(0, 2);
        tell(x, "fund 3/1;", 0);
        tell(x, "fund 4/1;tier 5x1;", 2);
        noises(x, 0, 1);
        x.draw();
        x.wait(2);
        noises(x, 1, 0);
        x.draw();
        // By 2: MIX 31 of 0, 1: 1, MIX 37: 1, so 2, which is not free of 2, 3 is.
        drawDue(x, 0, 0, 0, 2, 1, 3, 6, 0, NONE, 6);
        drawDue(x, 1, 2, 1, 2, 1, 3, 14, 1, 0, 9);
        dueThrow("drawn(2, 0)", INDEX, () -> x.drawn(2, 0));
        dueThrow("drawn(-1, 0)", INDEX, () -> x.drawn(-1, 0));
        dueThrow("drawn(2, 9)", INDEX, () -> x.drawn(2, 9));
        dueThrow("drawn(1, 9)", ARGUMENT, () -> x.drawn(1, 9));
        dueThrow("drawn(1, -1)", ARGUMENT, () -> x.drawn(1, -1));
    }

    private static void promise18Win() {
        BondOffice x = withHolders(2);
        dueThrow("win(0, 0) without wins", INDEX, () -> x.win(0, 0));
        x.buy(0, 2);
        tell(x, "fund 6/1;tier 5x1;tier 7x1;", 0);
        noises(x, 0, 1);
        x.draw();
        winDue(x, 0, 0, 1, 0, 5, 0);
        winDue(x, 1, 0, 0, 0, 7, 0);
        x.give(0, 0, 1, 1);
        due("a win is not given on", x.win(0, 2), 0);
        x.claim(1);
        due("claimed", x.win(1, 4), 1);
        noises(x, 0, 1);
        x.wait(501);
        due("draw", x.draw(), 1);
        due("lapsed", x.win(0, 4), 2);
        due("claimed", x.win(1, 4), 1);
        winDue(x, 2, 1, 1, 1, 5, 0);
        winDue(x, 3, 1, 0, 1, 7, 0);
        dueThrow("win(4, 0)", INDEX, () -> x.win(4, 0));
        dueThrow("win(-1, 0)", INDEX, () -> x.win(-1, 0));
        dueThrow("win(4, 5)", INDEX, () -> x.win(4, 5));
        dueThrow("win(0, 5)", ARGUMENT, () -> x.win(0, 5));
        dueThrow("win(0, -1)", ARGUMENT, () -> x.win(0, -1));
    }

    private static void promise19Claim() {
        BondOffice x = withHolders(1);
        x.buy(0, 4);
        tell(x, "fund 10/1;tier 9x3;", 0);
        noises(x, 0, 0);
        x.draw();
        due("claim", x.claim(0), 9);
        due("claim again", x.claim(0), -1);
        x.wait(500);
        due("claim after 500 days", x.claim(1), 9);
        x.wait(1);
        due("claim after 501 days", x.claim(2), -2);
        due("it is open still", x.win(2, 4), 0);
        due("claim again after 501 days", x.claim(0), -1);
        due("nothing is carried by that", x.carried(), 13);
        noises(x, 0, 0);
        x.draw();
        due("claim of a lapsed one", x.claim(2), -2);
        due("claim of a new one", x.claim(3), 9);
        dueThrow("claim(6)", INDEX, () -> x.claim(6));
        dueThrow("claim(-1)", INDEX, () -> x.claim(-1));
    }

    private static void promise19Lapse() {
        BondOffice x = withHolders(1);
        x.buy(0, 4);
        tell(x, "fund 10/1;tier 9x2;tier 4x1;", 0);
        noises(x, 0, 0);
        x.draw();
        due("carried", x.carried(), 18);
        x.claim(0);
        x.wait(500);
        noises(x, 0, 0);
        x.draw();
        due("none lapses after 500 days", x.drawn(1, 5), 58);
        due("open wins", x.count(7), 5);
        x.wait(1);
        noises(x, 0, 0);
        x.draw();
        // 36 carried, 9 and 4 of the wins that lapse.
        due("fund with what lapsed", x.drawn(2, 5), 40 + 36 + 13);
        due("lapsed", x.win(1, 4), 2);
        due("lapsed", x.win(2, 4), 2);
        due("open", x.win(3, 4), 0);
        due("open wins", x.count(7), 6);
        x.wait(1);
        noises(x, 0, 0);
        x.draw();
        due("none lapses twice", x.drawn(3, 5), 40 + 40 + 36 + 13 - 22);
    }

    private static void promise20Paid() {
        BondOffice x = withHolders(2);
        x.buy(0, 4);
        tell(x, "fund 1000000/1;fund 1000000/1;fund 1000000/1;tier 1000000000x9;tier 1000000x4;", 0);
        due("paid at first", x.paid(0), 0);
        noises(x, 1, 2);
        x.draw();
        due("claim", x.claim(0), 1_000_000);
        due("paid", x.paid(0), 1_000_000);
        due("claim again", x.claim(0), -1);
        due("paid once", x.paid(0), 1_000_000);
        x.claim(1);
        due("paid", x.paid(0), 2_000_000);
        due("paid to others", x.paid(1), 0);
        dueThrow("paid(2)", INDEX, () -> x.paid(2));
        dueThrow("paid(-1)", INDEX, () -> x.paid(-1));

        BondOffice y = withHolders(1);
        y.buy(0, 10_000_000);
        tell(y, "fund 1000/1;tier 1000000000x3;", 0);
        noises(y, 1, 2);
        y.draw();
        y.claim(0);
        y.claim(1);
        y.claim(2);
        due("paid above every int", y.paid(0), 3_000_000_000L);
    }

    private static void promise21Carried() {
        BondOffice x = withHolders(1);
        x.buy(0, 3);
        tell(x, "fund 5/2;tier 2x2;", 0);
        noises(x, 0, 0);
        x.draw();
        due("carried", x.carried(), 3);
        noises(x, 0, 0);
        x.draw();
        due("carried", x.carried(), 6);
        x.claim(0);
        due("a claim changes nothing", x.carried(), 6);
        x.wait(501);
        due("days change nothing", x.carried(), 6);
        noises(x, 0, 0);
        x.draw();
        due("carried", x.carried(), 6 + 6 + 7 - 4);
    }

    private static void promise22Count() {
        BondOffice x = withHolders(3);
        x.buy(0, 10);
        x.buy(1, 5);
        x.cash(0, 3, 4);
        tell(x, "fund 1/1;tier 1x3;", 1);
        tell(x, "", 2);
        x.wait(1);
        noises(x, 1, 2);
        x.draw();
        x.claim(1);
        x.noise(4);
        x.feed(0, 0, 0, 0, 0);
        int[] want = {3, 15, 13, 4, 2, 1, 3, 2, 1, 1, 20};
        for (int what = 0; what < want.length; what++) {
            due("count(" + what + ")", x.count(what), want[what]);
        }
        due("count(11)", x.count(11), NONE);
        due("count(-1)", x.count(-1), NONE);
        due("count(MAX)", x.count(Integer.MAX_VALUE), NONE);
        due("count(MIN)", x.count(Integer.MIN_VALUE), NONE);
        x.wait(501);
        due("old wins are open until a draw", x.count(7), 2);
        noises(x, 1);
        x.draw();
        due("old wins lapse by a draw", x.count(7), 0);
    }
}
