import java.lang.reflect.Array;
import java.lang.reflect.Field;
import java.lang.reflect.Modifier;
import java.nio.charset.StandardCharsets;
import java.util.List;

/** What the tests share: what is due, what a refused call leaves as it was, and offices made ready. */
abstract class OfficeTest {
    static final int NONE = BondOffice.NONE;
    static final int MIN = Integer.MIN_VALUE;
    static final int MAX = Integer.MAX_VALUE;
    static final Class<?> INDEX = IndexOutOfBoundsException.class;
    static final Class<?> ARGUMENT = IllegalArgumentException.class;
    static final Class<?> STATE = IllegalStateException.class;

    private static int wrong = 0;
    private static int edges = 0;
    private static String sentence = "";

    interface Call {
        long answer();
    }

    /** One sentence of the document that names an edge, and the test that is its own. */
    static void edge(String told, Runnable test) {
        edges++;
        sentence = told + ": ";
        try {
            test.run();
        } catch (RuntimeException e) {
            fail("the test ended early by " + e);
        }
        sentence = "";
    }

    /** Ends the program: with exit code 1, if an answer was not the one that is due. */
    static void end() {
        String ran = edges == 0 ? "" : " (" + edges + " edges)";
        System.out.println((wrong == 0 ? "all answers are as due" : wrong + " answers are not as due") + ran);
        if (wrong != 0) {
            System.exit(1);
        }
    }

    static void fail(String what) {
        wrong++;
        System.out.println(sentence + what);
    }

    static void due(String what, long got, long want) {
        if (got != want) {
            fail(what + " answered " + got + ", due is " + want);
        }
    }

    static void dueThrow(String what, Class<?> kind, Call call) {
        try {
            fail(what + " answered " + call.answer() + ", due is " + kind.getSimpleName());
        } catch (RuntimeException e) {
            // The class must throw by itself, not let a list or the machine do it.
            boolean own = e.getStackTrace()[0].getClassName().equals("BondOffice");
            if (e.getClass() != kind || !own) {
                fail(what + " threw " + e + (own ? "" : " from outside the class") + ", due is "
                        + kind.getSimpleName());
            }
        }
    }

    /** The call answers as due, and the object is as it was. */
    static void keeps(BondOffice x, String what, long want, Call call) {
        String before = stateOf(x);
        due(what, call.answer(), want);
        dueSame(x, what, before);
    }

    /** The call throws as due, and the object is as it was. */
    static void keeps(BondOffice x, String what, Class<?> kind, Call call) {
        String before = stateOf(x);
        dueThrow(what, kind, call);
        dueSame(x, what, before);
    }

    private static void dueSame(BondOffice x, String what, String before) {
        if (!stateOf(x).equals(before)) {
            fail(what + " changed the object");
        }
    }

    /** All that an object holds inside, read without a call, as calls beyond the 512th answer what they like. */
    static String stateOf(BondOffice x) {
        StringBuilder text = new StringBuilder();
        write(x, text);
        return text.toString();
    }

    private static void write(Object one, StringBuilder text) {
        if (one instanceof List<?> list) {
            text.append('[');
            list.forEach(part -> write(part, text));
            text.append(']');
        } else if (one != null && one.getClass().isArray()) {
            text.append('[');
            for (int i = 0; i < Array.getLength(one); i++) {
                write(Array.get(one, i), text);
            }
            text.append(']');
        } else if (one != null && one.getClass().getName().startsWith("BondOffice") && !(one instanceof Enum<?>)) {
            writeFields(one, text);
        } else {
            text.append(one).append(' ');
        }
    }

    private static void writeFields(Object one, StringBuilder text) {
        text.append('{');
        for (Field field : one.getClass().getDeclaredFields()) {
            if (Modifier.isStatic(field.getModifiers())) {
                continue;
            }
            field.setAccessible(true);
            text.append(field.getName()).append('=');
            try {
                write(field.get(one), text);
            } catch (IllegalAccessException e) {
                throw new IllegalStateException(e);
            }
        }
        text.append('}');
    }

    /** Numbers that none of so many things has. */
    static int[] outside(int size) {
        return new int[] {-1, size, size + 1, MIN, MAX};
    }

    static BondOffice withHolders(int n) {
        BondOffice x = new BondOffice();
        for (int i = 0; i < n; i++) {
            x.holder();
        }
        return x;
    }

    /** An office whose holder 0 has so many bonds, with a rule from day 0 on. */
    static BondOffice withBonds(int n, String rule) {
        BondOffice x = withHolders(2);
        x.buy(0, n);
        due("rule '" + rule + "'", tell(x, rule, 0), 0);
        return x;
    }

    /** An office with bonds in lines of so many, all of holder 0. */
    static BondOffice withLines(int lines, int bondsEach) {
        BondOffice x = withHolders(3);
        for (int i = 0; i < lines; i++) {
            x.buy(0, bondsEach);
        }
        return x;
    }

    /**
     * An office with 100 bonds in lines of one, given to and fro between holders 0 and 1 until there are so many:
     * of 1,400 all are holder 1's, of 1,499 all but bond 99 are holder 0's, of 1,500 all are.
     */
    static BondOffice filledTo(int lines) {
        BondOffice x = withLines(100, 1);
        int from = 0;
        while (x.count(3) + 100 <= lines) {
            x.give(from, 0, 99, 1 - from);
            from = 1 - from;
        }
        int missing = lines - x.count(3);
        if (missing > 0) {
            x.give(from, 0, missing - 1, 1 - from);
        }
        due("lines are filled", x.count(3), lines);
        return x;
    }

    /** An office with so many lines, of which the one with bonds 100 to 109 is holder 2's. */
    static BondOffice filledWithTen(int lines) {
        BondOffice x = filledTo(1_400);
        x.buy(2, 10);
        x.give(1, 0, lines - 1_402, 0);
        due("lines are filled", x.count(3), lines);
        return x;
    }

    private static int word(byte[] bytes, int at) {
        int number = 0;
        for (int i = 0; i < 4; i++) {
            number = number << 8 | (at + i < bytes.length ? bytes[at + i] & 255 : 0);
        }
        return number;
    }

    static void feedText(BondOffice x, String text) {
        byte[] bytes = text.getBytes(StandardCharsets.ISO_8859_1);
        for (int at = 0; at < bytes.length; at += 20) {
            x.feed(word(bytes, at), word(bytes, at + 4), word(bytes, at + 8), word(bytes, at + 12),
                    word(bytes, at + 16));
        }
    }

    static int tell(BondOffice x, String text, int day) {
        feedText(x, text);
        return x.rule(text.length(), day);
    }

    static void noises(BondOffice x, int... numbers) {
        for (int number : numbers) {
            x.noise(number);
        }
    }

    /** A draw with START 0 and STEP 1, so that bonds win in the order of their numbers. */
    static int drawInOrder(BondOffice x) {
        noises(x, 0, 0);
        return x.draw();
    }

    static void lineDue(BondOffice x, int k, int first, int last, int holder, int since, int ended) {
        due("line " + k + " first", x.line(k, 0), first);
        due("line " + k + " last", x.line(k, 1), last);
        due("line " + k + " holder", x.line(k, 2), holder);
        due("line " + k + " since", x.line(k, 3), since);
        due("line " + k + " ended", x.line(k, 4), ended);
    }

    static void winDue(BondOffice x, int win, int draw, int bond, int holder, int prize, int state) {
        due("win " + win + " draw", x.win(win, 0), draw);
        due("win " + win + " bond", x.win(win, 1), bond);
        due("win " + win + " holder", x.win(win, 2), holder);
        due("win " + win + " prize", x.win(win, 3), prize);
        due("win " + win + " state", x.win(win, 4), state);
    }

    static void drawDue(BondOffice x, int draw, long... facts) {
        for (int what = 0; what < facts.length; what++) {
            due("drawn(" + draw + ", " + what + ")", x.drawn(draw, what), facts[what]);
        }
    }

    static void faultDue(String text, int kind, int place) {
        BondOffice x = new BondOffice();
        due("rule '" + text + "'", tell(x, text, 0), kind - 10);
        due("fault() of '" + text + "'", x.fault(), place);
        due("rules with '" + text + "'", x.count(4), 0);
        due("tape behind '" + text + "'", x.count(10), 0);
        due("force(0) with '" + text + "'", x.force(0), NONE);
    }

    static void textDue(String text) {
        BondOffice x = new BondOffice();
        due("rule '" + text + "'", tell(x, text, 0), 0);
        due("fault() of '" + text + "'", x.fault(), NONE);
        due("rules with '" + text + "'", x.count(4), 1);
    }
}
