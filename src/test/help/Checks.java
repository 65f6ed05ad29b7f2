import java.lang.reflect.Array;
import java.lang.reflect.Field;
import java.lang.reflect.Modifier;

/** What tests of single sentences share: a sentence with its checks, refusals that change nothing, ranges, lines. */
public abstract class Checks {
    protected static final String INDEX = "IndexOutOfBoundsException";
    protected static final String ARGUMENT = "IllegalArgumentException";
    protected static final String UNSUPPORTED = "UnsupportedOperationException";
    protected static final String STATE = "IllegalStateException";
    protected static final String NO_ELEMENT = "NoSuchElementException";
    protected static final String ARITHMETIC = "ArithmeticException";

    private static String sentence = "";
    private static int sentences = 0;
    private static int checks = 0;
    private static int wrong = 0;

    protected interface Maker {
        Feederbank make();
    }

    protected interface Call {
        Object on(Feederbank x);
    }

    protected interface NumberCall {
        Object on(Feederbank x, int number);
    }

    /** A test of a sentence of the document; one that checks nothing is a fault of the test. */
    protected static void sentence(String text, Runnable test) {
        sentence = text;
        sentences++;
        int before = checks;
        try {
            test.run();
        } catch (RuntimeException e) {
            fail("threw " + e + " at " + e.getStackTrace()[Math.min(2, e.getStackTrace().length - 1)]);
        }
        if (checks == before) {
            fail("checks nothing");
        }
    }

    private static void fail(String what) {
        wrong++;
        System.out.println(sentence + ": " + what);
    }

    protected static void is(String what, Object got, Object want) {
        checks++;
        if (!got.equals(want)) {
            fail(what + " answered " + got + ", due is " + want);
        }
    }

    /** The call throws just this exception, and changes nothing. */
    protected static void refuses(String exception, Feederbank x, Call call) {
        String before = inside(x);
        String got;
        try {
            got = "the answer " + call.on(x);
        } catch (RuntimeException e) {
            got = e.getClass().getSimpleName();
        }
        is("a call to be refused", got, exception);
        is("what a refused call leaves", inside(x), before);
    }

    protected static void refuses(String exception, Maker maker, Call call) {
        refuses(exception, maker.make(), call);
    }

    /** The least and the greatest number are taken, those outside are refused, the first and the last ones. */
    private static void bounds(String exception, int low, int high, Maker maker, NumberCall call) {
        for (int number : new int[] {low, high}) {
            Feederbank x = maker.make();
            checks++;
            try {
                call.on(x, number);
            } catch (RuntimeException e) {
                fail(number + " is refused by " + e);
            }
        }
        for (int number : new int[] {low - 1, high + 1, Integer.MIN_VALUE, Integer.MAX_VALUE}) {
            if (number < low || number > high) {
                refuses(exception, maker, x -> call.on(x, number));
            }
        }
    }

    protected static void range(int low, int high, Maker maker, NumberCall call) {
        bounds(ARGUMENT, low, high, maker, call);
    }

    /** There are so many, numbered from 0. */
    protected static void numbered(int count, Maker maker, NumberCall call) {
        bounds(INDEX, 0, count - 1, maker, call);
    }

    /** A method that only returns something leaves all as it is. */
    protected static void onlyAsks(Feederbank x, Call call) {
        String before = inside(x);
        try {
            call.on(x);
        } catch (RuntimeException e) {
            fail("threw " + e);
        }
        is("what a question leaves", inside(x), before);
    }

    protected static int end(String what) {
        if (wrong == 0) {
            System.out.println(what + ": " + sentences + " sentences hold, by " + checks + " checks");
        } else {
            System.out.println(what + ": " + wrong + " checks fail");
        }
        return wrong == 0 ? 0 : 1;
    }

    /** All that an object holds, its hidden rows too: what a call may change without any answer telling it yet. */
    private static String inside(Feederbank x) {
        StringBuilder s = new StringBuilder();
        write(s, x);
        return s.toString();
    }

    private static void write(StringBuilder s, Object o) {
        if (o == null || o.getClass().getName().startsWith("java.lang.")) {
            s.append(o).append(' ');
        } else if (o.getClass().isArray()) {
            for (int i = 0; i < Array.getLength(o); i++) {
                write(s, Array.get(o, i));
            }
        } else {
            writeFields(s, o);
        }
    }

    private static void writeFields(StringBuilder s, Object o) {
        for (Field field : o.getClass().getDeclaredFields()) {
            if (!Modifier.isStatic(field.getModifiers()) && !field.isSynthetic()) {
                field.setAccessible(true);
                try {
                    write(s, field.get(o));
                } catch (IllegalAccessException e) {
                    fail(field + " can't be read");
                }
            }
        }
    }

    // ---- lines

    /** Sort 0 of a size and heats; product 0 with places of it in a row of the side 0; machine 0 with reel 0 of 200. */
    protected static Feederbank line(int size, int low, int high, int places) {
        Feederbank x = new Feederbank();
        x.sort(size, 1, 2, low, high, 0);
        x.product();
        for (int i = 0; i < places; i++) {
            x.place(0, i, 0, 0, 0);
        }
        x.machine(7);
        x.reel(0, 0, 5, 200);
        x.load(0, 0, 0);
        return x;
    }

    protected static Feederbank line() {
        return line(1, 100, 300, 1);
    }

    /** A line with a board that is ready since the tick 16; as zones and speed are, its heat is 250. */
    protected static Feederbank ready() {
        Feederbank x = line();
        x.order(0, 1, 0);
        x.tick(16);
        return x;
    }

    /** A line with a board at the bench, as its only place is too hot by 50. */
    protected static Feederbank bench() {
        Feederbank x = line(1, 100, 200, 1);
        x.order(0, 1, 0);
        x.tick(16);
        return x;
    }

    protected static Feederbank left() {
        Feederbank x = ready();
        x.test(0);
        x.leave(0);
        return x;
    }

    /** A board that is scrap, by three heats of mending behind that of the oven and one more. */
    protected static Feederbank scrap() {
        Feederbank x = bench();
        for (int i = 1; i <= 3; i++) {
            x.reel(0, 0, 5, 9);
            x.mend(0, 0, i);
            x.setAside(i);
        }
        x.mend(0, 0, 0);
        return x;
    }

    /** Lets ticks go by, more than one call can. */
    protected static void ticks(Feederbank x, int many) {
        for (int gone = 0; gone < many; gone += 200) {
            x.tick(Math.min(200, many - gone));
        }
    }

    /** Orders so many boards of the product 0, and waits till they are through. */
    protected static void wear(Feederbank x, int boards) {
        for (int gone = 0; gone < boards; gone += 9) {
            x.order(0, Math.min(9, boards - gone), 0);
        }
        ticks(x, 400);
    }

    /** The least z from which just so many tries one behind the other lose their parts. */
    protected static int losing(int many) {
        for (int z = 1; z < Integer.MAX_VALUE; z++) {
            long next = z;
            int lost = 0;
            for (int i = 0; i <= many; i++) {
                next = next * 48271 % 2147483647;
                if (next % 40 != 0) {
                    break;
                }
                lost++;
            }
            if (lost == many) {
                return z;
            }
        }
        return 0;
    }
}
