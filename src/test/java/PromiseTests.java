import java.util.ArrayList;
import java.util.List;

/** One test and more for each promise of the document; what is due is reckoned by hand from its words. */
public final class PromiseTests {
    private static final String INDEX = "IndexOutOfBoundsException";
    private static final String ARGUMENT = "IllegalArgumentException";
    private static final String UNSUPPORTED = "UnsupportedOperationException";
    private static final String STATE = "IllegalStateException";
    private static final String NO_ELEMENT = "NoSuchElementException";
    private static final String ARITHMETIC = "ArithmeticException";

    private static int wrong = 0;
    private static int asked = 0;

    private interface Call {
        Object run();
    }

    private static void is(String what, Object got, Object want) {
        asked++;
        if (!got.equals(want)) {
            wrong++;
            System.out.println(what + " answered " + got + ", due is " + want);
        }
    }

    private static void refuses(String what, String exception, Call call) {
        String got = "nothing";
        try {
            got = "the answer " + call.run();
        } catch (RuntimeException e) {
            got = e.getClass().getSimpleName();
        }
        is(what, got, exception);
    }

    /** Sort 0 bears every heat; product 0 has one place, at 0, 0 of the side 0; machine 0 has reel 0 of 50 parts. */
    private static Feederbank simple() {
        Feederbank x = new Feederbank();
        x.sort(1, 1, 2, 100, 300, 0);
        x.product();
        x.place(0, 0, 0, 0, 0);
        x.machine(7);
        x.reel(0, 0, 5, 50);
        x.load(0, 0, 0);
        return x;
    }

    /** A board of simple() that is ready: it is so in the tick 16. */
    private static Feederbank ready() {
        Feederbank x = simple();
        x.order(0, 1, 20);
        x.tick(16);
        return x;
    }

    /** The z with which so many parts are lost at once. */
    private static int losing(int many) {
        for (int z = 1; z < 2147483646; z++) {
            long next = z;
            int lost = 0;
            for (int i = 0; i < many; i++) {
                next = next * 48271 % 2147483647;
                lost += next % 40 == 0 ? 1 : 0;
            }
            if (lost == many) {
                long after = next * 48271 % 2147483647;
                if (after % 40 != 0) {
                    return z;
                }
            }
        }
        return 0;
    }

    // 1
    private static void newObject() {
        Feederbank x = new Feederbank();
        is("now of a new one", x.now(), 0);
        is("lost of a new one", x.lost(), 0);
        is("washes of a new one", x.washes(), 0);
        is("falseCalls of a new one", x.falseCalls(), 0);
        is("checksum of a new one", x.checksum(), 7L);
        is("isSound of a new one", x.isSound(), true);
        refuses("reel of a new one", INDEX, () -> x.parts(0));
        refuses("board of a new one", INDEX, () -> x.stateOf(0));
        refuses("order of a new one", INDEX, () -> x.late(0));
        refuses("machine of a new one", INDEX, () -> x.loaded(0, 0));
        refuses("product of a new one", INDEX, () -> x.wear(0));
        refuses("sort of a new one", INDEX, () -> x.learn(0));
        is("stations of a new one", x.waiting(2), 0);
        refuses("stations of a new one", INDEX, () -> x.waiting(3));
        Feederbank y = simple();
        Feederbank z = new Feederbank();
        is("another object", z.product(), 0);
        is("the first object", y.product(), 1);
    }

    // 2
    private static void sorts() {
        Feederbank x = new Feederbank();
        int[][] bad = {{0, 1, 1, 100, 100, 0}, {4, 1, 1, 100, 100, 0}, {1, 0, 1, 100, 100, 0}, {1, 10, 1, 100, 100, 0},
            {1, 1, 0, 100, 100, 0}, {1, 1, 21, 100, 100, 0}, {1, 1, 1, 99, 100, 0}, {1, 1, 1, 301, 301, 0},
            {1, 1, 1, 200, 199, 0}, {1, 1, 1, 100, 301, 0}, {1, 1, 1, 100, 100, 9}, {1, 1, 1, 100, 100, 1000},
            {1, 1, 1, 100, 100, -1}, {1, 1, 1, 100, 100, 1}};
        for (int[] b : bad) {
            refuses("sort", ARGUMENT, () -> x.sort(b[0], b[1], b[2], b[3], b[4], b[5]));
        }
        is("sort", x.sort(1, 1, 1, 100, 100, 10), 0);
        is("sort", x.sort(3, 9, 20, 300, 300, 999), 1);
        for (int i = 2; i < 10; i++) {
            is("sort", x.sort(2, 5, 10, 100, 300, 0), i);
        }
        refuses("11th sort", STATE, () -> x.sort(1, 1, 1, 100, 100, 0));
        refuses("11th sort, and a bad one", ARGUMENT, () -> x.sort(0, 1, 1, 100, 100, 0));
    }

    // 3
    private static void products() {
        Feederbank x = new Feederbank();
        for (int i = 0; i < 3; i++) {
            is("product", x.product(), i);
        }
        refuses("4th product", STATE, () -> x.product());
    }

    // 4
    private static void places() {
        Feederbank x = new Feederbank();
        x.sort(1, 1, 1, 100, 300, 0);
        x.product();
        refuses("place of no product", INDEX, () -> x.place(1, 0, 0, 0, 0));
        refuses("place of no product", INDEX, () -> x.place(-1, 0, 0, 0, 0));
        refuses("place of no sort", INDEX, () -> x.place(0, 0, 0, 0, 1));
        refuses("place of no sort, ahead of a bad x", INDEX, () -> x.place(0, 20, 0, 0, -1));
        int[][] bad = {{-1, 0, 0}, {20, 0, 0}, {0, -1, 0}, {0, 20, 0}, {0, 0, -1}, {0, 0, 2}};
        for (int[] b : bad) {
            refuses("place", ARGUMENT, () -> x.place(0, b[0], b[1], b[2], 0));
        }
        is("place", x.place(0, 19, 19, 0, 0), 0);
        refuses("place that is taken", UNSUPPORTED, () -> x.place(0, 19, 19, 0, 0));
        is("place of the other side", x.place(0, 19, 19, 1, 0), 1);
        for (int i = 2; i < 12; i++) {
            is("place", x.place(0, i, 0, 0, 0), i);
        }
        refuses("13th place", STATE, () -> x.place(0, 0, 5, 0, 0));
        refuses("13th place that is taken", UNSUPPORTED, () -> x.place(0, 2, 0, 0, 0));
        x.product();
        x.place(1, 0, 0, 0, 0);
        x.order(1, 1, 0);
        refuses("place of an ordered product", UNSUPPORTED, () -> x.place(1, 1, 0, 0, 0));
    }

    // 5
    private static void changes() {
        Feederbank x = new Feederbank();
        for (int i = 0; i < 4; i++) {
            x.sort(1, 1, 1, 100, 300, 0);
        }
        x.product();
        x.place(0, 0, 0, 0, 0);
        x.place(0, 1, 0, 0, 0);
        refuses("change of no product", INDEX, () -> x.change(1, 0, 0, 0));
        refuses("change of no product", INDEX, () -> x.change(-1, 0, 0, 0));
        refuses("change of no product", INDEX, () -> x.change(3, 0, 0, 0));
        refuses("change of no place", INDEX, () -> x.change(0, 2, 0, 0));
        refuses("change to no sort, with a bad number", INDEX, () -> x.change(0, 0, 4, 100));
        refuses("change", ARGUMENT, () -> x.change(0, 0, 1, -1));
        refuses("change", ARGUMENT, () -> x.change(0, 0, 1, 100));
        is("change", x.change(0, 0, 1, 10), 0);
        is("change before", x.change(0, 0, 2, 5), 0);
        is("change of the same", x.change(0, 0, 3, 10), 1);
        is("needed", x.needed(0, 0, 4), 0);
        is("needed", x.needed(0, 0, 5), 2);
        is("needed", x.needed(0, 0, 9), 2);
        is("needed", x.needed(0, 0, 10), 3);
        is("needed", x.needed(0, 0, 99), 3);
        is("needed of another place", x.needed(0, 1, 99), 0);
        for (int i = 3; i < 8; i++) {
            is("change", x.change(0, 1, 1, 99), i == 3 ? 0 : 1);
        }
        refuses("9th change", STATE, () -> x.change(0, 0, 1, 0));
        changesBehindThePrinter();
    }

    private static void changesBehindThePrinter() {
        Feederbank x = simple();
        x.sort(2, 1, 2, 100, 300, 0);
        x.order(0, 3, 50);
        is("change of a board that waits", x.change(0, 0, 1, 0), 0);
        is("change back", x.change(0, 0, 0, 0), 1);
        x.tick(4);
        is("the second one is in the printer", x.stationOf(1), 0);
        refuses("change from one that was begun", UNSUPPORTED, () -> x.change(0, 0, 1, 1));
        refuses("change from one ahead of it", UNSUPPORTED, () -> x.change(0, 0, 1, 0));
        is("change behind it", x.change(0, 0, 1, 2), 0);
        x.tick(20);
        is("the third one waits for its new sort", x.stateOf(2), 'w');
        x.reel(1, 1, 0, 9);
        x.load(0, 1, 1);
        x.tick(1);
        is("the third one is printed for the new size", x.at(2, 0, 'v'), 200 - 2 - 8 * 2);
    }

    // 6
    private static void alternates() {
        Feederbank x = new Feederbank();
        x.sort(1, 1, 1, 100, 300, 0);
        x.sort(1, 1, 1, 100, 300, 0);
        x.sort(2, 1, 1, 100, 300, 0);
        x.product();
        refuses("alternate of no product", INDEX, () -> x.alternate(1, 0, 1, 0));
        refuses("alternate of no sort", INDEX, () -> x.alternate(0, 3, 1, 0));
        refuses("alternate of no other", INDEX, () -> x.alternate(0, 0, 3, 200));
        refuses("alternate", ARGUMENT, () -> x.alternate(0, 0, 0, 100));
        refuses("alternate", ARGUMENT, () -> x.alternate(0, 0, 1, -1));
        refuses("alternate of itself", UNSUPPORTED, () -> x.alternate(0, 0, 0, 0));
        refuses("alternate of another size", UNSUPPORTED, () -> x.alternate(0, 0, 2, 0));
        for (int i = 1; i <= 8; i++) {
            is("alternate", x.alternate(0, 0, 1, 99), i);
        }
        refuses("9th alternate", STATE, () -> x.alternate(0, 0, 1, 0));
        refuses("9th alternate of another size", UNSUPPORTED, () -> x.alternate(0, 0, 2, 0));
        alternatesServe();
    }

    private static void alternatesServe() {
        Feederbank x = new Feederbank();
        for (int i = 0; i < 4; i++) {
            x.sort(1, 1, 1, 100, 300, 0);
        }
        x.product();
        x.place(0, 0, 0, 0, 0);
        x.machine(7);
        x.reel(2, 2, 0, 1);
        x.reel(1, 1, 0, 1);
        x.reel(3, 3, 0, 9);
        x.reel(1, 1, 0, 1);
        x.load(0, 0, 2);
        x.load(0, 1, 0);
        x.load(0, 5, 1);
        x.load(0, 4, 3);
        x.alternate(0, 0, 1, 1);
        x.alternate(0, 0, 2, 0);
        x.alternate(0, 1, 3, 0);
        x.order(0, 3, 0);
        x.tick(60);
        x.order(0, 1, 0);
        x.tick(10);
        is("the first takes the alternate of its serial number", x.at(0, 0, 'r'), 0);
        is("the second takes the alternate told first, of the lowest slot", x.at(1, 0, 'r'), 3);
        is("the third takes the next slot", x.at(2, 0, 'r'), 1);
        is("an alternate of an alternate does not stand", x.stateOf(3), 'w');
        x.reel(0, 0, 0, 9);
        x.load(0, 3, 4);
        x.tick(20);
        is("the needed sort", x.at(3, 0, 'r'), 4);
        is("an alternate is no fault", x.fault(1, 0), '-');
    }

    // 7
    private static void needed() {
        Feederbank x = simple();
        is("needed", x.needed(0, 0, 0), 0);
        is("needed", x.needed(0, 0, 99), 0);
        refuses("needed of no product", INDEX, () -> x.needed(1, 0, 0));
        refuses("needed of no product", INDEX, () -> x.needed(-1, 0, 0));
        refuses("needed of no product", INDEX, () -> x.needed(3, 0, 0));
        refuses("needed of no place", INDEX, () -> x.needed(0, 1, 100));
        refuses("needed", ARGUMENT, () -> x.needed(0, 0, -1));
        refuses("needed", ARGUMENT, () -> x.needed(0, 0, 100));
    }

    // 8, 9
    private static void reels() {
        Feederbank x = new Feederbank();
        x.sort(1, 1, 1, 100, 300, 0);
        refuses("reel of no sort", INDEX, () -> x.reel(1, 0, 0, 1));
        refuses("reel of no real sort", INDEX, () -> x.reel(0, -1, 100, 1));
        refuses("reel", ARGUMENT, () -> x.reel(0, 0, -1, 1));
        refuses("reel", ARGUMENT, () -> x.reel(0, 0, 100, 1));
        refuses("reel", ARGUMENT, () -> x.reel(0, 0, 0, 0));
        refuses("reel", ARGUMENT, () -> x.reel(0, 0, 0, 201));
        for (int i = 0; i < 20; i++) {
            is("reel", x.reel(0, 0, 99, 200 - i), i);
        }
        refuses("21st reel", STATE, () -> x.reel(0, 0, 0, 1));
        refuses("21st reel with a bad lot", ARGUMENT, () -> x.reel(0, 0, 100, 1));
        is("parts", x.parts(0), 200);
        is("parts", x.parts(19), 181);
        refuses("parts", INDEX, () -> x.parts(20));
        refuses("parts", INDEX, () -> x.parts(-1));
        Feederbank y = ready();
        is("parts less the one on the board", y.parts(0), 49);
    }

    // 10, 11, 12
    private static void lives() {
        Feederbank x = new Feederbank();
        x.sort(1, 1, 1, 100, 300, 10);
        x.sort(1, 1, 1, 100, 300, 0);
        x.machine(1);
        x.reel(0, 1, 0, 5);
        x.reel(1, 0, 0, 5);
        refuses("lifeLeft", INDEX, () -> x.lifeLeft(2));
        refuses("isFit", INDEX, () -> x.isFit(-1));
        refuses("bake", INDEX, () -> x.bake(2));
        is("life not loaded yet", x.lifeLeft(0), 1000);
        x.tick(3);
        x.load(0, 0, 0);
        x.load(0, 1, 1);
        is("life as it says", x.lifeLeft(0), 10);
        is("no life as it says", x.lifeLeft(1), 1000);
        refuses("bake a loaded one", UNSUPPORTED, () -> x.bake(0));
        x.tick(4);
        is("life", x.lifeLeft(0), 6);
        x.reel(1, 1, 0, 5);
        is("load over it", x.load(0, 0, 2), 0);
        x.tick(5);
        is("life unloaded", x.lifeLeft(0), 1);
        is("fit with life", x.isFit(0), true);
        x.tick(1);
        is("life over", x.lifeLeft(0), 0);
        is("not fit without life", x.isFit(0), false);
        x.tick(7);
        is("life long over", x.lifeLeft(0), 0);
        is("bake", x.bake(0), 0);
        is("as if never loaded", x.lifeLeft(0), 1000);
        is("fit again", x.isFit(0), true);
        refuses("bake twice", UNSUPPORTED, () -> x.bake(0));
        x.tick(20);
        x.load(0, 0, 0);
        x.tick(2);
        is("life anew", x.lifeLeft(0), 8);
        is("bake one without a life", x.bake(2), 1000);
        x.setAside(1);
        is("not fit as it is set aside", x.isFit(1), false);
        livesOfSpliced();
    }

    private static void livesOfSpliced() {
        Feederbank x = new Feederbank();
        x.sort(1, 1, 1, 100, 300, 30);
        x.machine(1);
        x.reel(0, 0, 0, 5);
        x.reel(0, 0, 0, 5);
        x.load(0, 0, 0);
        x.splice(0, 1);
        x.tick(5);
        is("life of a spliced one", x.lifeLeft(1), 1000);
        refuses("bake a spliced one", UNSUPPORTED, () -> x.bake(1));
        Feederbank y = simple();
        y.order(0, 9, 0);
        y.order(0, 9, 0);
        is("bake of one not loaded yet", y.reel(0, 0, 0, 1), 1);
        is("bake of one not loaded yet", y.bake(1), 1000);
        y.load(0, 0, 1);
        y.tick(100);
        is("no parts", y.parts(1), 0);
        is("not fit without parts", y.isFit(1), false);
    }

    // 13
    private static void machines() {
        Feederbank x = new Feederbank();
        refuses("machine", ARGUMENT, () -> x.machine(0));
        refuses("machine", ARGUMENT, () -> x.machine(8));
        is("machine", x.machine(1), 0);
        is("machine", x.machine(7), 1);
        is("machine", x.machine(4), 2);
        refuses("4th machine", STATE, () -> x.machine(1));
        refuses("4th machine", ARGUMENT, () -> x.machine(8));
        Feederbank y = simple();
        y.order(0, 1, 0);
        refuses("machine behind an order", STATE, () -> y.machine(1));
        nozzles();
        machinesBehindTicks();
    }

    private static void nozzles() {
        for (int bits = 1; bits <= 7; bits++) {
            for (int size = 1; size <= 3; size++) {
                Feederbank x = new Feederbank();
                x.sort(size, 1, 1, 100, 300, 0);
                x.product();
                x.place(0, 0, 0, 0, 0);
                x.machine(bits);
                x.reel(0, 0, 0, 5);
                x.load(0, 0, 0);
                x.order(0, 1, 0);
                x.tick(1);
                boolean has = size == 1 ? bits % 2 == 1 : size == 2 ? bits % 4 >= 2 : bits >= 4;
                is("nozzles " + bits + " for the size " + size, x.stateOf(0), has ? 'l' : 'w');
            }
        }
    }

    private static void machinesBehindTicks() {
        Feederbank x = new Feederbank();
        x.tick(4);
        is("the eye starves", x.idle(2, false), 4);
        x.machine(7);
        is("a new machine did not starve", x.idle(1, false), 0);
        is("the oven goes on", x.idle(2, false), 4);
        is("the eye goes on", x.idle(3, false), 4);
        x.tick(2);
        is("the machine starves", x.idle(1, false), 2);
        is("the eye starves", x.idle(3, false), 6);
    }

    // 14, 16
    private static void loads() {
        Feederbank x = new Feederbank();
        x.sort(1, 1, 1, 100, 300, 0);
        x.machine(1);
        for (int i = 0; i < 4; i++) {
            x.reel(0, 0, 0, 5);
        }
        refuses("load", INDEX, () -> x.load(1, 0, 0));
        refuses("load", INDEX, () -> x.load(0, 6, 0));
        refuses("load", INDEX, () -> x.load(0, -1, 0));
        refuses("load", INDEX, () -> x.load(0, 0, 4));
        is("loaded", x.loaded(0, 5), -1);
        refuses("loaded", INDEX, () -> x.loaded(1, 0));
        refuses("loaded", INDEX, () -> x.loaded(0, 6));
        is("load", x.load(0, 5, 3), -1);
        is("loaded", x.loaded(0, 5), 3);
        refuses("load a loaded one", UNSUPPORTED, () -> x.load(0, 0, 3));
        refuses("load a loaded one where it is", UNSUPPORTED, () -> x.load(0, 5, 3));
        x.splice(3, 2);
        refuses("load a spliced one", UNSUPPORTED, () -> x.load(0, 0, 2));
        is("load over both", x.load(0, 5, 1), 3);
        is("what was behind is free", x.load(0, 0, 2), -1);
        is("what was there is free", x.load(0, 1, 3), -1);
        refuses("it has none behind any more, but loaded ones can't be spliced", UNSUPPORTED, () -> x.splice(3, 2));
        is("it has none behind any more", x.splice(3, 0), 10);
    }

    // 15
    private static void splices() {
        Feederbank x = new Feederbank();
        x.sort(1, 1, 1, 100, 300, 0);
        x.sort(1, 1, 1, 100, 300, 0);
        x.product();
        x.place(0, 0, 0, 0, 0);
        x.machine(1);
        x.reel(0, 0, 0, 1);
        x.reel(0, 1, 0, 2);
        x.reel(1, 0, 0, 3);
        x.reel(0, 0, 0, 4);
        refuses("splice", INDEX, () -> x.splice(4, 0));
        refuses("splice", INDEX, () -> x.splice(0, -1));
        refuses("splice behind one not loaded", UNSUPPORTED, () -> x.splice(0, 1));
        x.load(0, 2, 0);
        refuses("splice behind itself", UNSUPPORTED, () -> x.splice(0, 0));
        refuses("splice of another sort", UNSUPPORTED, () -> x.splice(0, 2));
        is("splice of the sort that it says", x.splice(0, 1), 3);
        refuses("splice behind one that has one", UNSUPPORTED, () -> x.splice(0, 3));
        refuses("splice behind one that is spliced", UNSUPPORTED, () -> x.splice(1, 3));
        x.load(0, 3, 3);
        refuses("splice one that is spliced", UNSUPPORTED, () -> x.splice(3, 1));
        x.load(0, 3, 2);
        x.order(0, 3, 0);
        x.tick(5);
        is("the other one is in its place", x.loaded(0, 2), 1);
        is("the first one is not loaded", x.bake(0), 1000);
        x.tick(20);
        is("one that is empty stays", x.loaded(0, 2), 1);
        is("it is empty", x.parts(1), 0);
        is("splice behind an empty one", x.splice(1, 3), 4);
        is("at once", x.loaded(0, 2), 3);
        is("splice the empty one", x.splice(3, 1), 4);
    }

    // 17, 18
    private static void heatsOfTheOven() {
        Feederbank x = simple();
        refuses("zone", ARGUMENT, () -> x.zone(-1, 100));
        refuses("zone", ARGUMENT, () -> x.zone(3, 100));
        refuses("zone", ARGUMENT, () -> x.zone(0, 19));
        refuses("zone", ARGUMENT, () -> x.zone(0, 401));
        refuses("speed", ARGUMENT, () -> x.speed(0));
        refuses("speed", ARGUMENT, () -> x.speed(10));
        is("zone", x.zone(0, 20), 150);
        is("zone", x.zone(1, 400), 200);
        is("zone", x.zone(2, 100), 250);
        is("zone", x.zone(2, 30), 100);
        is("speed", x.speed(9), 3);
        is("speed", x.speed(5), 9);
        x.order(0, 1, 0);
        x.tick(7);
        is("ahead of the oven", x.stationOf(0), -3);
        is("zone", x.zone(0, 21), 20);
        x.tick(1);
        is("in the oven", x.stationOf(0), 2);
        refuses("zone with a board in the oven", UNSUPPORTED, () -> x.zone(0, 20));
        refuses("zone with a board in the oven", ARGUMENT, () -> x.zone(0, 0));
        refuses("speed with a board in the oven", UNSUPPORTED, () -> x.speed(3));
        refuses("speed with a board in the oven", ARGUMENT, () -> x.speed(0));
        x.tick(2);
        is("still in the oven, 12 / 5 + 1 ticks", x.stationOf(0), 2);
        x.tick(1);
        is("behind the oven", x.stationOf(0), -4);
        is("zone", x.zone(0, 150), 21);
        is("heat", x.heatBits(0, 0), Float.floatToIntBits(400.0f));
    }

    // 19
    private static void limits() {
        Feederbank x = simple();
        refuses("limit", ARGUMENT, () -> x.limit(true, -1));
        refuses("limit", ARGUMENT, () -> x.limit(false, 101));
        is("limit of the eye", x.limit(true, 100), 75);
        is("limit of paste", x.limit(false, 0), 60);
        is("limit of the eye", x.limit(true, 0), 100);
        is("limit of paste", x.limit(false, 100), 0);
    }

    // 20, 21
    private static void stencils() {
        Feederbank x = simple();
        refuses("wipe", INDEX, () -> x.wipe(1));
        refuses("wear", INDEX, () -> x.wear(-1));
        x.tick(9);
        is("dryness", x.wipe(0), 0);
        x.tick(10);
        is("dryness", x.wipe(0), 1);
        x.tick(59);
        is("dryness", x.wipe(0), 5);
        x.tick(49);
        x.product();
        x.tick(10);
        is("dryness", x.wipe(0), 5);
        is("dryness since it was told", x.wipe(1), 1);
        is("wear", x.wear(0), 0);
        x.tick(21);
        x.order(0, 2, 0);
        x.tick(1);
        is("wear as printing begins", x.wear(0), 1);
        is("volume", x.at(0, 0, 'v'), 150 - 16);
        x.tick(3);
        is("volume", x.at(1, 0, 'v'), 150 - 1);
        is("wear", x.wear(0), 2);
        x.tick(6);
        is("dryness since printing began", x.wipe(0), 0);
        is("no wear of the other product", x.wear(1), 0);
    }

    // 22, 23
    private static void learning() {
        Feederbank x = new Feederbank();
        for (int i = 0; i < 3; i++) {
            x.sort(1, 1, 1, 100, 300, 0);
        }
        refuses("learn", INDEX, () -> x.learn(3));
        refuses("approve", INDEX, () -> x.approve(-1));
        refuses("approve what was not asked for", UNSUPPORTED, () -> x.approve(0));
        is("learn", x.learn(2), false);
        is("learn", x.learn(2), true);
        is("learn", x.learn(1), false);
        is("approve", x.approve(1), 1);
        is("approve", x.approve(2), 2);
        refuses("approve twice", UNSUPPORTED, () -> x.approve(2));
        is("learn what is learned", x.learn(2), true);
    }

    // 24
    private static void orders() {
        Feederbank x = simple();
        x.product();
        refuses("order", INDEX, () -> x.order(2, 0, 0));
        refuses("order", ARGUMENT, () -> x.order(1, 0, 0));
        refuses("order", ARGUMENT, () -> x.order(0, 10, 0));
        refuses("order", ARGUMENT, () -> x.order(0, 1, -1));
        refuses("order", ARGUMENT, () -> x.order(0, 1, 100000));
        refuses("order of a product without places", UNSUPPORTED, () -> x.order(1, 1, 0));
        x.place(1, 0, 0, 1, 0);
        is("order", x.order(0, 9, 99999), 0);
        is("order", x.order(1, 9, 0), 9);
        is("order", x.order(0, 9, 0), 18);
        is("order", x.order(0, 9, 0), 27);
        refuses("41 boards", STATE, () -> x.order(0, 5, 0));
        is("40 boards", x.order(0, 4, 0), 36);
        is("boards wait", x.waiting(0), 40);
        Feederbank y = simple();
        for (int i = 0; i < 10; i++) {
            is("order", y.order(0, 1, 0), i);
        }
        refuses("11th order", STATE, () -> y.order(0, 1, 0));
        refuses("11th order", ARGUMENT, () -> y.order(0, 0, 0));
    }

    // 25, 49
    private static void losses() {
        Feederbank x = simple();
        refuses("seed", ARGUMENT, () -> x.seed(0));
        refuses("seed", ARGUMENT, () -> x.seed(2147483647));
        is("seed", x.seed(2147483646), 1);
        is("seed", x.seed(1), 2147483646);
        x.order(0, 1, 0);
        x.tick(30);
        is("one try", x.seed(1), 48271);
        is("no loss", x.lost(), 0);
        Feederbank y = simple();
        y.seed(losing(2));
        y.order(0, 1, 0);
        y.tick(5);
        is("two lost", y.lost(), 2);
        is("the third one is put", y.at(0, 0, 'r'), 0);
        is("three taken", y.parts(0), 47);
        is("sound", y.isSound(), true);
        Feederbank z = simple();
        z.seed(losing(3));
        z.order(0, 1, 0);
        z.tick(30);
        is("three lost", z.lost(), 3);
        is("without a part", z.at(0, 0, 'r'), -1);
        is("three taken", z.parts(0), 47);
        is("missing", z.fault(0, 0), 'm');
        is("missing ones need as many ticks", z.idle(2, false), 30 - 5);
        is("sound", z.isSound(), true);
        Feederbank w = simple();
        w.reel(0, 0, 0, 1);
        w.load(0, 0, 1);
        int seed = losing(1);
        w.seed(seed);
        w.order(0, 1, 0);
        w.tick(30);
        is("one lost", w.lost(), 1);
        is("no try without a part", w.seed(1), (int) (seed * 48271L % 2147483647L));
        is("missing", w.at(0, 0, 'r'), -1);
    }

    // 26, 27, 28, 29, 30
    private static void ticks() {
        Feederbank x = simple();
        refuses("tick", ARGUMENT, () -> x.tick(0));
        refuses("tick", ARGUMENT, () -> x.tick(201));
        x.order(0, 2, 0);
        refuses("stateOf", INDEX, () -> x.stateOf(2));
        refuses("stationOf", INDEX, () -> x.stationOf(-1));
        refuses("waiting", INDEX, () -> x.waiting(-1));
        refuses("waiting", INDEX, () -> x.waiting(4));
        refuses("idle", INDEX, () -> x.idle(4, true));
        refuses("idle", INDEX, () -> x.idle(-1, false));
        is("waits", x.stateOf(0), 'w');
        is("waits", x.stationOf(0), -1);
        is("waiting", x.waiting(0), 2);
        int[] station = {0, 0, 0, -2, 1, 1, -3, 2, 2, 2, 2, 2, -4, 3, 3};
        for (int i = 0; i < station.length; i++) {
            is("ready", x.tick(1), 0);
            is("station of 0 in the tick " + (i + 1), x.stationOf(0), station[i]);
            is("state of 0 in the tick " + (i + 1), x.stateOf(0), 'l');
            is("station of 1 in the tick " + (i + 1), x.stationOf(1), i < 3 ? -1 : i < 9 ? station[i - 3] : i < 12 ? -3 : 2);
        }
        is("ready", x.tick(1), 1);
        is("now", x.now(), 16);
        is("ready", x.stateOf(0), 'r');
        refuses("stationOf", NO_ELEMENT, () -> x.stationOf(0));
        is("ready", x.tick(200), 2);
        x.test(0);
        x.leave(0);
        is("ready or left", x.tick(1), 2);
        is("left", x.stateOf(0), 'x');
        refuses("stationOf", NO_ELEMENT, () -> x.stationOf(0));
        is("now", x.now(), 217);
    }

    // 31
    private static void idleStations() {
        Feederbank x = new Feederbank();
        x.sort(1, 1, 2, 100, 300, 0);
        x.product();
        for (int i = 0; i < 12; i++) {
            x.place(0, i % 2 * 19, i, 0, 0);
        }
        x.machine(7);
        x.reel(0, 0, 5, 200);
        x.load(0, 0, 0);
        x.order(0, 6, 0);
        // The machine takes 0 in the tick 5, for 16 ticks.
        x.tick(10);
        is("0 is placed", x.stationOf(0), 1);
        is("1 waits", x.stationOf(1), -2);
        is("2 waits", x.stationOf(2), -2);
        is("3 is printed", x.stationOf(3), 0);
        is("a full belt", x.waiting(1), 2);
        is("not blocked yet", x.idle(0, true), 0);
        x.tick(3);
        is("not blocked yet", x.idle(0, true), 1);
        x.tick(2);
        is("blocked in each tick", x.idle(0, true), 3);
        is("not starved meanwhile", x.idle(0, false), 0);
        is("4 waits", x.waiting(0), 2);
        is("the machine was starved for 4 ticks", x.idle(1, false), 4);
        is("the oven was starved", x.idle(2, false), 15);
        is("not blocked", x.idle(2, true), 0);
        Feederbank y = simple();
        y.load(0, 0, y.reel(0, 0, 0, 1));
        y.order(0, 2, 0);
        y.tick(8);
        is("the second one was begun with the last part in sight", y.stationOf(1), 1);
        y.tick(40);
        is("the second one is missing", y.fault(1, 0), 'm');
        y.order(0, 1, 0);
        int before = y.idle(0, false);
        y.tick(5);
        is("starved as it can't be begun", y.idle(0, false), before + 5);
        is("it waits", y.stateOf(2), 'w');
    }

    // 32
    private static void numbersOfPlaces() {
        Feederbank x = simple();
        x.order(0, 1, 0);
        refuses("at", INDEX, () -> x.at(1, 0, 'r'));
        refuses("at", INDEX, () -> x.at(0, 1, '?'));
        refuses("at", ARGUMENT, () -> x.at(0, 0, '?'));
        refuses("at", ARGUMENT, () -> x.at(0, 0, 'R'));
        is("no reel", x.at(0, 0, 'r'), -1);
        is("no volume", x.at(0, 0, 'v'), -1);
        is("not dealt", x.at(0, 0, 'd'), -1);
        is("no heats", x.at(0, 0, 'h'), 0);
        is("not called", x.at(0, 0, 'c'), 0);
        x.tick(1);
        is("dealt", x.at(0, 0, 'd'), 0);
        is("volume", x.at(0, 0, 'v'), 150);
        is("no reel yet", x.at(0, 0, 'r'), -1);
        x.tick(4);
        is("reel", x.at(0, 0, 'r'), 0);
        is("no heats", x.at(0, 0, 'h'), 0);
        x.limit(true, 100);
        x.wipe(0);
        x.tick(3);
        is("heats", x.at(0, 0, 'h'), 1);
        is("not called", x.at(0, 0, 'c'), 0);
    }

    private static void dealing() {
        Feederbank x = new Feederbank();
        x.sort(1, 1, 2, 100, 300, 0);
        x.sort(2, 1, 2, 100, 300, 0);
        x.product();
        for (int i = 0; i < 5; i++) {
            x.place(0, i, 0, 0, 0);
        }
        x.place(0, 6, 0, 0, 1);
        x.place(0, 0, 0, 1, 0);
        x.machine(1);
        x.machine(3);
        x.machine(1);
        for (int i = 0; i < 3; i++) {
            x.reel(0, 0, 0, 50);
            x.load(i, 0, i);
        }
        x.reel(1, 1, 0, 50);
        x.load(0, 1, 3);
        x.order(0, 1, 0);
        x.tick(2);
        is("a reel without its nozzle does not serve", x.stateOf(0), 'w');
        x.reel(1, 1, 0, 50);
        x.load(1, 1, 4);
        x.tick(1);
        int[] dealt = {0, 1, 2, 0, 1, 1, -1};
        for (int i = 0; i < 7; i++) {
            is("place " + i + " is dealt", x.at(0, i, 'd'), dealt[i]);
        }
        is("the other side is not printed", x.at(0, 6, 'v'), -1);
        is("volume by its size", x.at(0, 5, 'v'), 200);
        x.tick(60);
        is("the other side is dealt anew", x.at(0, 6, 'd'), 0);
        is("the first machine", x.at(0, 3, 'r'), 0);
        is("the second machine", x.at(0, 5, 'r'), 4);
        is("the third machine", x.at(0, 2, 'r'), 2);
        is("two heats of the first side", x.at(0, 0, 'h'), 2);
        is("one heat of the second side", x.at(0, 6, 'h'), 1);
    }

    private static void placing() {
        // Heights 2, 1, 1, 1: first the place 3 at 5, 0, from there 2 and 1 are alike near, then 0.
        Feederbank x = new Feederbank();
        x.sort(1, 2, 2, 100, 300, 0);
        x.sort(1, 1, 2, 100, 300, 0);
        x.product();
        x.place(0, 0, 0, 0, 0);
        x.place(0, 5, 16, 0, 1);
        x.place(0, 19, 2, 0, 1);
        x.place(0, 5, 0, 0, 1);
        x.machine(7);
        for (int i = 0; i < 6; i++) {
            x.reel(i == 0 ? 0 : 1, i == 0 ? 0 : 1, 0, 1);
        }
        x.load(0, 0, 0);
        x.load(0, 3, 1);
        x.load(0, 1, 2);
        x.load(0, 2, 3);
        x.order(0, 1, 0);
        x.tick(5);
        is("the nearest first", x.at(0, 3, 'r'), 2);
        is("of alike ones the lower place", x.at(0, 1, 'r'), 3);
        is("then the other one", x.at(0, 2, 'r'), 1);
        is("the highest one last", x.at(0, 0, 'r'), 0);
        // Ways 5, 16, 28, 21: 0 + 2 + 3 + 2 and 4 places and 1.
        x.tick(11);
        is("still placed", x.stationOf(0), 1);
        x.tick(1);
        is("placed", x.stationOf(0), -3);
    }

    // 33
    private static void heatBits() {
        Feederbank x = simple();
        x.order(0, 1, 0);
        refuses("heatBits", INDEX, () -> x.heatBits(1, 0));
        refuses("heatBits", INDEX, () -> x.heatBits(0, 2));
        refuses("heatBits", INDEX, () -> x.heatBits(0, -1));
        refuses("heatBits", NO_ELEMENT, () -> x.heatBits(0, 0));
        x.tick(7);
        refuses("heatBits", NO_ELEMENT, () -> x.heatBits(0, 0));
        x.tick(1);
        is("heatBits", x.heatBits(0, 0), Float.floatToIntBits(250.0f));
        refuses("heatBits", NO_ELEMENT, () -> x.heatBits(0, 1));
        refuses("heatBits", INDEX, () -> x.heatBits(0, 2));
        for (int speed = 1; speed <= 9; speed++) {
            for (int mass = 1; mass <= 20; mass += 3) {
                heatsOf(speed, mass, 12, 20 + 37 * speed, 400 - 11 * mass, 21 + mass * speed);
            }
        }
        heatsOf(3, 5, 1, 20, 20, 20);
        heatsOf(3, 5, 4, 399, 20, 20);
        heatsOf(9, 20, 12, 400, 400, 400);
    }

    private static void heatsOf(int speed, int mass, int parts, int first, int second, int third) {
        Feederbank x = new Feederbank();
        x.sort(1, 1, mass, 100, 300, 0);
        x.sort(1, 1, 20, 100, 300, 0);
        x.product();
        for (int i = 0; i < parts; i++) {
            x.place(0, i, 0, i < 7 ? 0 : 1, 0);
        }
        x.machine(7);
        x.reel(0, 1, 0, 50);
        x.load(0, 0, 0);
        x.speed(speed);
        x.zone(0, first);
        x.zone(1, second);
        x.zone(2, third);
        x.limit(true, 0);
        x.order(0, 1, 0);
        x.tick(40);
        int lower = parts < 7 ? parts : 7;
        int below = Float.floatToIntBits(hottest(speed, 10 + lower * mass, first, second, third));
        is("heat of the lower side", x.heatBits(0, 0), below);
        if (parts > 7 && x.stateOf(0) != 'b') {
            x.tick(40);
            int above = Float.floatToIntBits(hottest(speed, 10 + parts * mass, first, second, third));
            is("heat of the upper side, by all parts", x.heatBits(0, 1), above);
            is("heat of the lower side is kept", x.heatBits(0, 0), below);
        }
        is("sound", x.isSound(), true);
    }

    private static float hottest(int speed, int mass, int... zones) {
        float share = Math.min(1f, 90f / (mass + 10f * speed));
        float heat = 20f;
        float most = 20f;
        for (int zone : zones) {
            heat += (zone - heat) * share;
            most = Math.max(most, heat);
        }
        return most;
    }

    // 34
    private static void faults() {
        Feederbank x = simple();
        x.order(0, 1, 0);
        refuses("fault", INDEX, () -> x.fault(1, 0));
        refuses("fault", INDEX, () -> x.fault(0, 1));
        x.tick(7);
        refuses("fault", NO_ELEMENT, () -> x.fault(0, 0));
        x.tick(1);
        is("fault", x.fault(0, 0), '-');
        int[][] told = {{100, 249, 'b'}, {100, 250, '-'}, {250, 300, '-'}, {251, 300, 'c'}};
        for (int[] t : told) {
            Feederbank y = new Feederbank();
            y.sort(1, 1, 2, t[0], t[1], 0);
            y.product();
            y.place(0, 0, 0, 0, 0);
            y.machine(7);
            y.reel(0, 0, 5, 50);
            y.load(0, 0, 0);
            y.order(0, 1, 0);
            y.tick(8);
            is("fault of " + t[0] + " to " + t[1], y.fault(0, 0), (char) t[2]);
        }
        wrongParts();
        poorPaste();
    }

    private static void wrongParts() {
        Feederbank x = new Feederbank();
        x.sort(1, 1, 2, 100, 100, 0);
        x.sort(1, 1, 2, 100, 300, 0);
        x.product();
        x.place(0, 0, 0, 0, 0);
        x.machine(7);
        x.reel(0, 1, 5, 50);
        x.load(0, 0, 0);
        x.order(0, 1, 0);
        x.tick(16);
        is("wrong ahead of too hot", x.fault(0, 0), 'w');
        is("not seen, as it looks alike", x.stateOf(0), 'r');
        is("no suspicion", x.suspicions(0), 0);
        x.alternate(0, 0, 1, 1);
        is("an alternate for later ones", x.fault(0, 0), 'w');
        x.alternate(0, 0, 1, 0);
        is("an alternate, too hot for the needed sort", x.fault(0, 0), 'b');
    }

    private static void poorPaste() {
        // 46 boards can't be had, but 5 times 8 for dryness, and wear: 150 * 70 / 100 is 105.
        for (int wear = 4; wear <= 6; wear++) {
            Feederbank x = simple();
            x.order(0, wear, 0);
            x.limit(true, 0);
            x.tick(100);
            x.order(0, 1, 0);
            x.tick(30);
            is("volume", x.at(wear, 0, 'v'), 150 - wear - 40);
            is("paste", x.fault(wear, 0), wear == 6 ? 'p' : '-');
        }
    }

    // the eye: 19, 22, 32, 44
    private static void eye() {
        int[][] told = {{260, 300, 'b'}, {261, 300, 'b'}, {259, 300, 'r'}, {251, 300, 'r'}, {100, 249, 'b'}};
        for (int[] t : told) {
            Feederbank x = new Feederbank();
            x.sort(1, 1, 2, t[0], t[1], 0);
            x.product();
            x.place(0, 0, 0, 0, 0);
            x.machine(7);
            x.reel(0, 0, 5, 50);
            x.load(0, 0, 0);
            x.order(0, 1, 0);
            x.tick(16);
            is("the eye on " + t[0] + " to " + t[1], x.stateOf(0), (char) t[2]);
        }
        for (int limit = 72; limit <= 74; limit++) {
            Feederbank x = simple();
            x.tick(50);
            x.limit(true, limit);
            x.order(0, 1, 0);
            x.tick(13);
            is("volume", x.at(0, 0, 'v'), 110);
            is("not called yet", x.at(0, 0, 'c'), 0);
            x.tick(1);
            is("called as it looks", x.at(0, 0, 'c'), limit == 74 ? 1 : 0);
            is("no fault", x.fault(0, 0), '-');
            is("in the eye", x.stationOf(0), 3);
            x.tick(2);
            is("the eye on " + limit, x.stateOf(0), limit == 74 ? 'b' : 'r');
        }
        lies(1, 1, false, 'r', 0);
        lies(1, 1, true, 'b', 1);
        lies(2, 1, false, 'b', 1);
        lies(1, 2, false, 'b', 1);
    }

    private static void lies(int size, int height, boolean isLearned, char state, int suspicions) {
        Feederbank x = new Feederbank();
        x.sort(1, 1, 2, 100, 300, 0);
        x.sort(size, height, 2, 100, 300, 0);
        x.product();
        x.place(0, 0, 0, 0, 0);
        x.machine(7);
        x.reel(0, 1, 5, 50);
        x.load(0, 0, 0);
        x.learn(0);
        x.learn(1);
        x.approve(1);
        if (isLearned) {
            x.approve(0);
        }
        x.order(0, 2, 0);
        x.tick(14);
        is("suspicions as it looks", x.suspicions(0), suspicions);
        x.tick(2);
        is("the eye on a lie", x.stateOf(0), state);
        x.tick(20);
        is("suspicions", x.suspicions(0), 2 * suspicions);
        x.cover(0, 1);
        if (state == 'r') {
            is("needles find it", x.test(0), 'f');
            is("needles do not suspect", x.suspicions(0), 0);
        }
        refuses("suspicions", INDEX, () -> x.suspicions(1));
    }

    // 35
    private static void mending() {
        Feederbank x = bench();
        refuses("mend", INDEX, () -> x.mend(2, 0, 0));
        refuses("mend", INDEX, () -> x.mend(0, 2, 0));
        refuses("mend", INDEX, () -> x.mend(0, 0, 9));
        refuses("mend a place that is not called", UNSUPPORTED, () -> x.mend(0, 1, 0));
        refuses("mend with another sort", UNSUPPORTED, () -> x.mend(0, 0, 1));
        int old = x.parts(0);
        x.reel(0, 0, 7, 1);
        x.reel(0, 0, 7, 1);
        x.setAside(4);
        refuses("mend with one that is set aside", UNSUPPORTED, () -> x.mend(0, 0, 4));
        is("mend", x.mend(0, 0, 3), 'r');
        is("from the reel", x.parts(3), 0);
        is("the loaded one has its parts", x.parts(0), old);
        is("the part is there", x.at(0, 0, 'r'), 3);
        is("one heat more", x.at(0, 0, 'h'), 2);
        is("not called", x.at(0, 0, 'c'), 0);
        is("too hot no more", x.fault(0, 0), '-');
        is("sound", x.isSound(), true);
        refuses("mend a board that is not at the bench", UNSUPPORTED, () -> x.mend(0, 0, 0));
        refuses("mend with an empty one", UNSUPPORTED, () -> x.mend(1, 0, 3));
        refuses("an alternate is none yet", UNSUPPORTED, () -> x.mend(1, 0, 1));
        x.alternate(0, 0, 1, 1);
        is("mend with an alternate", x.mend(1, 0, 1), 'r');
        mendingMissing();
        mendingToScrap();
        mendingOfTwo();
    }

    /** Two boards at the bench for place 0, which is too hot; place 1 is fine; the reel 2 says 1, but is 0. */
    private static Feederbank bench() {
        Feederbank x = new Feederbank();
        x.sort(1, 1, 2, 100, 200, 0);
        x.sort(1, 1, 2, 100, 300, 0);
        x.product();
        x.place(0, 0, 0, 0, 0);
        x.place(0, 0, 1, 0, 1);
        x.machine(7);
        x.reel(0, 0, 5, 50);
        x.reel(1, 1, 6, 50);
        x.reel(1, 0, 6, 50);
        x.load(0, 0, 0);
        x.load(0, 1, 1);
        x.order(0, 2, 50);
        x.tick(40);
        is("at the bench", x.stateOf(0), 'b');
        is("at the bench", x.stateOf(1), 'b');
        refuses("nowhere in the line", NO_ELEMENT, () -> x.stationOf(0));
        return x;
    }

    private static void mendingMissing() {
        Feederbank x = simple();
        x.seed(losing(3));
        x.order(0, 1, 0);
        x.tick(20);
        is("missing", x.at(0, 0, 'c'), 1);
        is("no heats", x.at(0, 0, 'h'), 0);
        is("mend with a loaded one", x.mend(0, 0, 0), 'r');
        is("1 without one", x.at(0, 0, 'h'), 1);
        is("no fault", x.fault(0, 0), '-');
        is("sound", x.isSound(), true);
    }

    private static void mendingToScrap() {
        Feederbank x = bench();
        for (int i = 0; i < 3; i++) {
            int reel = x.reel(0, 0, 0, 5);
            is("mend", x.mend(0, 0, reel), 'r');
            is("heats", x.at(0, 0, 'h'), 2 + i);
            is("held", x.setAside(reel), 1);
        }
        is("at the bench", x.stateOf(0), 'b');
        is("scrap", x.mend(0, 0, 0), 's');
        is("heats", x.at(0, 0, 'h'), 5);
        is("scrap", x.stateOf(0), 's');
        refuses("nowhere", NO_ELEMENT, () -> x.stationOf(0));
        refuses("mend scrap", UNSUPPORTED, () -> x.mend(0, 0, 0));
        refuses("test scrap", UNSUPPORTED, () -> x.test(0));
        is("neither ready nor left", x.tick(200), 0);
        is("late", x.late(0), 2);
        is("sound", x.isSound(), true);
    }

    private static void mendingOfTwo() {
        // A loaded reel that mending empties is followed by the one behind it.
        Feederbank x = bench();
        int last = x.reel(0, 0, 0, 1);
        int next = x.reel(0, 0, 0, 7);
        x.load(0, 0, last);
        x.splice(last, next);
        is("mend by the last part", x.mend(0, 0, last), 'r');
        is("the next one is in its place", x.loaded(0, 0), next);
        is("mend by a loaded one", x.mend(1, 0, next), 'r');
        // The upper side comes behind the lower one, also from the bench.
        Feederbank y = new Feederbank();
        y.sort(1, 1, 2, 100, 200, 0);
        y.product();
        y.place(0, 0, 0, 0, 0);
        y.place(0, 0, 0, 1, 0);
        y.machine(7);
        y.reel(0, 0, 5, 50);
        y.load(0, 0, 0);
        y.order(0, 1, 0);
        y.tick(16);
        is("at the bench", y.stateOf(0), 'b');
        is("to the upper side", y.mend(0, 0, 0), 'w');
        is("ahead of the printer", y.stationOf(0), -1);
        is("waits there", y.waiting(0), 1);
        y.tick(16);
        is("at the bench", y.stateOf(0), 'b');
        is("a mended one is looked at no more", y.at(0, 0, 'c'), 0);
        is("heats", y.at(0, 0, 'h'), 3);
        is("judge", y.judge(0, 1), false);
        is("ready", y.stateOf(0), 'r');
        is("works not", y.test(0), 'u');
        is("causes", y.causes(0), 3);
    }

    // 36, 37
    private static void judging() {
        Feederbank x = bench();
        refuses("judge", INDEX, () -> x.judge(2, 0));
        refuses("judge", INDEX, () -> x.judge(0, 2));
        refuses("judge a place that is not called", UNSUPPORTED, () -> x.judge(0, 1));
        is("judge", x.judge(0, 0), false);
        is("ready", x.stateOf(0), 'r');
        is("no false call", x.falseCalls(), 0);
        refuses("judge a board that is not at the bench", UNSUPPORTED, () -> x.judge(0, 0));
        Feederbank y = simple();
        y.limit(true, 100);
        y.tick(10);
        y.order(0, 2, 0);
        y.tick(40);
        is("false call", y.judge(0, 0), true);
        is("false call", y.judge(1, 0), true);
        is("false calls", y.falseCalls(), 2);
    }

    // 38, 39, 40, 41
    private static void testing() {
        Feederbank x = bench();
        refuses("cover", INDEX, () -> x.cover(1, 5000));
        refuses("cover", ARGUMENT, () -> x.cover(0, -1));
        refuses("cover", ARGUMENT, () -> x.cover(0, 4096));
        is("cover", x.cover(0, 2), 0);
        is("cover", x.cover(0, 2), 2);
        refuses("test", INDEX, () -> x.test(2));
        refuses("test at the bench", UNSUPPORTED, () -> x.test(0));
        refuses("causes", INDEX, () -> x.causes(-1));
        refuses("causes at the bench", NO_ELEMENT, () -> x.causes(0));
        refuses("leave", INDEX, () -> x.leave(2));
        refuses("leave from the bench", UNSUPPORTED, () -> x.leave(0));
        x.judge(0, 0);
        refuses("causes untested", NO_ELEMENT, () -> x.causes(0));
        refuses("leave untested", UNSUPPORTED, () -> x.leave(0));
        is("unknown", x.test(0), 'u');
        is("stays ready", x.stateOf(0), 'r');
        is("causes", x.causes(0), 1);
        refuses("leave 'u'", UNSUPPORTED, () -> x.leave(0));
        x.cover(0, 4095);
        is("cover", x.cover(0, 4095), 4095);
        is("the cause of the last test", x.causes(0), 1);
        is("found", x.test(0), 'f');
        is("at the bench", x.stateOf(0), 'b');
        is("called", x.at(0, 0, 'c'), 1);
        is("not called", x.at(0, 1, 'c'), 0);
        refuses("causes at the bench", NO_ELEMENT, () -> x.causes(0));
        x.judge(0, 0);
        refuses("causes since it is ready anew", NO_ELEMENT, () -> x.causes(0));
        x.test(0);
        is("mend", x.mend(0, 0, 0), 'r');
        refuses("leave untested since then", UNSUPPORTED, () -> x.leave(0));
        is("good", x.test(0), 'g');
        is("stays ready", x.stateOf(0), 'r');
        refuses("causes of a good one", NO_ELEMENT, () -> x.causes(0));
        is("leave", x.leave(0), 1);
        is("left", x.stateOf(0), 'x');
        refuses("leave twice", UNSUPPORTED, () -> x.leave(0));
        refuses("test one that left", UNSUPPORTED, () -> x.test(0));
        x.mend(1, 0, 0);
        is("good", x.test(1), 'g');
        is("leave", x.leave(1), 2);
        is("sound", x.isSound(), true);
    }

    // 42, 43
    private static void settingAside() {
        Feederbank x = bench();
        refuses("setAside", INDEX, () -> x.setAside(3));
        refuses("isHeld", INDEX, () -> x.isHeld(2));
        x.mend(0, 0, 0);
        x.test(0);
        is("not held", x.isHeld(0), false);
        is("held", x.setAside(1), 2);
        refuses("setAside twice", UNSUPPORTED, () -> x.setAside(1));
        is("back to the bench", x.stateOf(0), 'b');
        is("called", x.at(0, 1, 'c'), 1);
        is("not called", x.at(0, 0, 'c'), 0);
        is("held", x.isHeld(0), true);
        is("held at the bench too", x.isHeld(1), true);
        is("not called as it is not ready", x.at(1, 1, 'c'), 0);
        is("judged, but held", x.judge(1, 0), false);
        is("at the bench", x.stateOf(1), 'b');
        is("called", x.at(1, 1, 'c'), 1);
        is("judged, but held", x.judge(0, 1), true);
        is("each time", x.at(0, 1, 'c'), 1);
        int reel = x.reel(1, 1, 0, 9);
        is("mended", x.mend(0, 1, reel), 'r');
        is("held no more", x.isHeld(0), false);
        refuses("its test counts no more", UNSUPPORTED, () -> x.leave(0));
        x.test(0);
        x.leave(0);
        is("one that left is not held", x.setAside(reel), 0);
        is("one that left is not held", x.isHeld(0), false);
        heldInTheLine();
    }

    private static void heldInTheLine() {
        Feederbank x = simple();
        x.order(0, 1, 0);
        x.tick(10);
        is("held in the line", x.setAside(0), 1);
        is("in the line", x.stateOf(0), 'l');
        x.tick(6);
        is("at the bench instead", x.stateOf(0), 'b');
        is("called", x.at(0, 0, 'c'), 1);
        is("not ready", x.tick(1), 0);
        is("a reel set aside is not taken", x.order(0, 1, 0), 1);
        x.tick(5);
        is("it waits", x.stateOf(1), 'w');
    }

    // 45, 46
    private static void recalls() {
        Feederbank x = simple();
        x.reel(0, 0, 7, 9);
        x.reel(0, 0, 5, 9);
        refuses("recall", INDEX, () -> x.recall(3, false));
        refuses("recall", ARGUMENT, () -> x.recall(100, true));
        refuses("recall", ARGUMENT, () -> x.recall(-1, true));
        refuses("recalled", INDEX, () -> x.recalled(-1, false, 0));
        refuses("recalled", ARGUMENT, () -> x.recalled(100, true, 0));
        x.order(0, 3, 0);
        x.tick(8);
        x.load(0, 0, 1);
        x.tick(2);
        x.load(0, 0, 2);
        x.tick(50);
        is("reels", x.at(0, 0, 'r') + 10 * x.at(1, 0, 'r') + 100 * x.at(2, 0, 'r'), 200);
        for (int i = 2; i >= 0; i -= 2) {
            x.test(i);
            x.leave(i);
        }
        is("recall of a reel", x.recall(0, false), 1);
        is("recall of another one", x.recall(2, false), 1);
        is("recall of a lot", x.recall(5, true), 2);
        is("by rising boards", x.recalled(5, true, 0), 0);
        is("by rising boards", x.recalled(5, true, 1), 2);
        refuses("recalled", NO_ELEMENT, () -> x.recalled(5, true, 2));
        refuses("recalled", NO_ELEMENT, () -> x.recalled(5, true, -1));
        is("recalled of a reel", x.recalled(2, false, 0), 2);
        is("recall of another lot", x.recall(7, true), 0);
        x.test(1);
        x.leave(1);
        is("recall of a lot", x.recall(5, true), 3);
        is("by rising boards", x.recalled(5, true, 1), 1);
        is("a part that was taken off is not recalled", mendedRecall(), 0);
    }

    private static int mendedRecall() {
        Feederbank x = bench();
        x.mend(0, 0, x.reel(0, 0, 40, 1));
        x.test(0);
        x.leave(0);
        is("the part that was put", x.recall(40, true), 1);
        return x.recall(5, true);
    }

    // 47
    private static void shortages() {
        Feederbank x = simple();
        x.sort(1, 1, 1, 100, 300, 0);
        refuses("shortage", INDEX, () -> x.shortage(1, 0, 0));
        refuses("shortage", INDEX, () -> x.shortage(0, 0, 2));
        refuses("shortage", ARGUMENT, () -> x.shortage(0, 0, 0));
        refuses("shortage", ARGUMENT, () -> x.shortage(0, 41, 0));
        is("enough", x.shortage(0, 40, 0), 0);
        x.place(0, 1, 1, 1, 0);
        is("short", x.shortage(0, 40, 0), 30);
        is("none needed", x.shortage(0, 40, 1), 0);
        x.change(0, 1, 1, 5);
        is("the next serial numbers", x.shortage(0, 10, 1), 5);
        x.reel(1, 0, 0, 2);
        is("less those that say it", x.shortage(0, 10, 1), 3);
        x.order(0, 3, 0);
        is("the next serial numbers", x.shortage(0, 10, 1), 6);
        x.alternate(0, 1, 0, 0);
        is("alternates aside", x.shortage(0, 10, 1), 6);
        x.setAside(1);
        is("fit ones alone", x.shortage(0, 10, 1), 8);
    }

    // 48
    private static void lateness() {
        Feederbank x = simple();
        x.order(0, 2, 30);
        refuses("late", INDEX, () -> x.late(1));
        refuses("late", INDEX, () -> x.late(-1));
        x.tick(30);
        is("not behind", x.late(0), 0);
        x.test(0);
        x.leave(0);
        x.tick(1);
        is("one is not gone", x.late(0), 1);
        x.test(1);
        x.leave(1);
        is("one left late", x.late(0), 1);
        x.tick(100);
        is("one left late", x.late(0), 1);
    }

    // 50, and washing
    private static void washing() {
        Feederbank x = simple();
        x.tick(60);
        x.limit(false, 74);
        x.order(0, 2, 0);
        x.tick(3);
        is("in the printer", x.stationOf(0), 0);
        is("no washing yet", x.washes(), 0);
        x.tick(1);
        is("washed", x.washes(), 1);
        is("back at the end", x.stateOf(0), 'w');
        is("the next one is begun in the same tick", x.stationOf(1), 0);
        is("its stencil was wiped", x.at(1, 0, 'v'), 149);
        is("volume as printed last", x.at(0, 0, 'v'), 110);
        x.tick(3);
        is("goes on", x.stationOf(1), -2);
        is("begun again", x.at(0, 0, 'v'), 148);
        is("wear", x.wear(0), 3);
        Feederbank y = simple();
        y.tick(60);
        y.order(0, 1, 0);
        y.limit(false, 74);
        y.tick(3);
        y.limit(false, 73);
        y.tick(1);
        is("the limit by then", y.washes(), 0);
        is("goes on", y.stationOf(0), -2);
        is("blocked", y.idle(0, true), 0);
        washingAsThereIsRoom();
    }

    private static void washingAsThereIsRoom() {
        Feederbank x = new Feederbank();
        x.sort(1, 1, 2, 100, 300, 0);
        x.product();
        for (int i = 0; i < 12; i++) {
            x.place(0, i % 2 * 19, i, 0, 0);
        }
        x.machine(7);
        x.reel(0, 0, 5, 200);
        x.load(0, 0, 0);
        x.order(0, 4, 0);
        x.tick(12);
        is("a full belt", x.waiting(1), 2);
        x.limit(false, 100);
        // The machine needs 1, 12, and 2 and 1 for two long ways: it takes the next in the tick 21.
        x.tick(8);
        is("without room it would not go on", x.washes(), 0);
        is("blocked from the tick 13 on", x.idle(0, true), 8);
        x.tick(1);
        is("with room it would", x.washes(), 1);
        is("washed and begun again", x.wear(0), 5);
    }

    /** Two products, of one and of two places that are too hot; changes and alternates are of one alone. */
    private static void twoProducts() {
        Feederbank x = new Feederbank();
        x.sort(1, 1, 2, 100, 200, 0);
        x.sort(1, 1, 2, 100, 300, 0);
        x.product();
        x.product();
        x.place(0, 0, 0, 0, 1);
        x.place(1, 0, 0, 0, 0);
        x.place(1, 5, 0, 0, 0);
        x.machine(7);
        x.reel(0, 0, 5, 20);
        x.reel(1, 1, 5, 50);
        x.load(0, 0, 0);
        x.load(0, 1, 1);
        is("change of the second", x.change(1, 0, 1, 5), 0);
        is("the first is not changed", x.needed(0, 0, 9), 1);
        is("the second is changed", x.needed(1, 0, 9), 1);
        x.alternate(1, 0, 1, 1);
        x.order(0, 1, 0);
        x.order(1, 2, 0);
        x.tick(60);
        is("the first is ready", x.stateOf(0), 'r');
        refuses("the first has one place", INDEX, () -> x.at(0, 1, 'r'));
        is("the second is called", x.at(1, 0, 'c') + 2 * x.at(1, 1, 'c'), 3);
        is("heats by its own sort", x.fault(1, 1), 'b');
        is("serial numbers of its own", x.shortage(1, 40, 0), 3 + 40 - 16);
        refuses("an alternate of a later serial number", UNSUPPORTED, () -> x.mend(1, 0, 1));
        is("mend by the alternate", x.mend(2, 0, 1), 'b');
        is("judge", x.judge(1, 0), false);
        is("one is called still", x.stateOf(1), 'b');
        is("judge", x.judge(1, 1), false);
        is("all are faulty", x.test(1), 'u');
        x.cover(1, 3);
        is("needles find both", x.test(1), 'f');
        is("both are called", x.at(1, 0, 'c') + 2 * x.at(1, 1, 'c'), 3);
        x.cover(1, 1);
        x.mend(1, 1, 0);
        x.mend(1, 0, 0);
        is("good", x.test(1), 'g');
        is("both parts are held", x.setAside(0), 2);
        is("both are called", x.at(1, 0, 'c') + 2 * x.at(1, 1, 'c'), 3);
        is("the one at the bench waits for its call", x.at(2, 0, 'c') + 2 * x.at(2, 1, 'c'), 2);
    }

    private static void washingOfTwoProducts() {
        Feederbank x = simple();
        x.product();
        x.place(1, 0, 0, 0, 0);
        x.tick(60);
        x.limit(false, 74);
        x.order(0, 1, 0);
        x.order(1, 1, 0);
        x.tick(4);
        is("washed", x.washes(), 1);
        is("the other product is begun", x.stationOf(1), 0);
        is("its stencil is as dry as it was", x.at(1, 0, 'v'), 110);
        x.limit(false, 60);
        x.tick(2);
        is("still printed", x.stationOf(1), 0);
        x.tick(6);
        is("printed again", x.at(0, 0, 'v'), 149);
        Feederbank y = simple();
        y.tick(60);
        y.limit(false, 74);
        y.order(0, 1, 0);
        y.tick(1);
        y.setAside(0);
        y.tick(3);
        is("washed, and it can't be begun again", y.washes() * 10 + y.waiting(0), 11);
        y.tick(8);
        is("wiped by washing behind 63 ticks", y.wipe(0), 0);
    }

    private static void dealingOfWashed() {
        Feederbank x = new Feederbank();
        x.sort(1, 1, 2, 100, 300, 0);
        x.product();
        for (int i = 0; i < 3; i++) {
            x.place(0, i, 0, 0, 0);
        }
        x.machine(7);
        x.machine(7);
        x.reel(0, 0, 0, 50);
        x.reel(0, 0, 0, 50);
        x.load(0, 0, 0);
        x.load(1, 0, 1);
        x.limit(false, 100);
        x.tick(20);
        x.order(0, 1, 0);
        x.tick(4);
        is("washed", x.washes(), 1);
        is("dealt anew", x.at(0, 0, 'd') + 10 * x.at(0, 1, 'd') + 100 * x.at(0, 2, 'd'), 10);
    }

    // 51, 52
    private static void shares() {
        Feederbank x = simple();
        refuses("leftShare", ARITHMETIC, () -> x.leftShare());
        refuses("meanHeat", ARITHMETIC, () -> x.meanHeat());
        x.order(0, 3, 0);
        is("leftShare", x.leftShare(), 0f);
        refuses("meanHeat", ARITHMETIC, () -> x.meanHeat());
        x.tick(40);
        x.test(2);
        x.leave(2);
        is("leftShare", x.leftShare(), 1f / 3f);
        is("meanHeat", x.meanHeat(), 250.0);
        x.zone(2, 270);
        x.place(x.product(), 0, 0, 1, 0);
        x.order(1, 1, 0);
        x.tick(40);
        is("leftShare", x.leftShare(), 0.25f);
        is("meanHeat", x.meanHeat(), 255.0);
        x.zone(2, 251);
        x.order(1, 2, 0);
        x.tick(40);
        is("meanHeat", x.meanHeat(), (3 * 250.0 + 270.0 + 2 * 251.0) / 6.0);
    }

    // 53
    private static void checksums() {
        Feederbank x = ready();
        is("checksum", x.checksum(), (7L * 31 + 'r') * 31 + 0 + 1);
        x.test(0);
        x.leave(0);
        is("checksum", x.checksum(), (7L * 31 + 'x') * 31 + 0 + 1);
        x.order(0, 1, 0);
        is("checksum", x.checksum(), (((7L * 31 + 'x') * 31 + 1) * 31 + 'w') * 31);
        x.product();
        is("products without boards do not count", x.checksum(), (((7L * 31 + 'x') * 31 + 1) * 31 + 'w') * 31);
    }

    // 54
    private static void soundness() {
        List<Feederbank> all = new ArrayList<>();
        all.add(new Feederbank());
        all.add(simple());
        all.add(ready());
        all.add(bench());
        for (Feederbank x : all) {
            is("sound", x.isSound(), true);
        }
        Feederbank x = ready();
        x.zone(0, 400);
        x.speed(1);
        is("sound with zones told since", x.isSound(), true);
        x.test(0);
        x.leave(0);
        x.alternate(0, 0, x.sort(1, 1, 1, 100, 300, 0), 0);
        is("sound", x.isSound(), true);
    }

    private static void examples() {
        Feederbank x = new Feederbank();
        is("sort", x.sort(1, 1, 2, 120, 220, 0), 0);
        is("product", x.product(), 0);
        is("place", x.place(0, 3, 4, 1, 0), 0);
        is("place", x.place(0, 9, 4, 1, 0), 1);
        is("machine", x.machine(7), 0);
        is("reel", x.reel(0, 0, 5, 9), 0);
        is("load", x.load(0, 0, 0), -1);
        is("order", x.order(0, 1, 40), 0);
        is("tick", x.tick(30), 0);
        is("stateOf", x.stateOf(0), 'b');
        is("fault", x.fault(0, 0), 'b');
        refuses("test", UNSUPPORTED, () -> x.test(0));
        refuses("leave", UNSUPPORTED, () -> x.leave(0));
        Feederbank y = new Feederbank();
        is("sort", y.sort(1, 2, 3, 150, 200, 50), 0);
        is("reel", y.reel(0, 0, 7, 12), 0);
        is("machine", y.machine(1), 0);
        is("load", y.load(0, 2, 0), -1);
        is("tick", y.tick(10), 0);
        is("lifeLeft", y.lifeLeft(0), 40);
        is("parts", y.parts(0), 12);
        Feederbank z = new Feederbank();
        refuses("leftShare", ARITHMETIC, () -> z.leftShare());
        is("product", z.product(), 0);
        refuses("order", UNSUPPORTED, () -> z.order(0, 1, 0));
        is("tick", z.tick(5), 0);
        is("now", z.now(), 5);
    }

    public static void main(String[] args) {
        newObject();
        sorts();
        products();
        places();
        changes();
        alternates();
        needed();
        reels();
        lives();
        machines();
        loads();
        splices();
        heatsOfTheOven();
        limits();
        stencils();
        learning();
        orders();
        losses();
        ticks();
        idleStations();
        numbersOfPlaces();
        dealing();
        placing();
        heatBits();
        faults();
        eye();
        mending();
        judging();
        testing();
        settingAside();
        recalls();
        shortages();
        lateness();
        washing();
        washingOfTwoProducts();
        dealingOfWashed();
        twoProducts();
        shares();
        checksums();
        soundness();
        examples();
        System.out.println(wrong == 0 ? asked + " answers are as due" : wrong + " answers are not as due");
        if (wrong != 0) {
            System.exit(1);
        }
    }
}
