import java.util.function.IntFunction;

/**
 * The promises 1 to 54, each sentence that names a boundary: ranges with the first numbers outside, what there is
 * room for and the one behind it, and refusals, the exception listed first where several apply.
 */
public final class RefusalTests extends Checks {
    private static final int LEAST = Integer.MIN_VALUE;
    private static final int MOST = Integer.MAX_VALUE;

    private static Feederbank sorts(int many) {
        Feederbank x = new Feederbank();
        for (int i = 0; i < many; i++) {
            x.sort(1, 1, 1, 100, 300, 0);
        }
        return x;
    }

    /** Two sorts of the size 1 and one of the size 2, and two products, the first one with three places. */
    private static Feederbank lists() {
        Feederbank x = sorts(2);
        x.sort(2, 1, 1, 100, 300, 0);
        x.product();
        x.product();
        x.place(0, 0, 0, 0, 0);
        x.place(0, 1, 0, 0, 1);
        x.place(0, 2, 0, 1, 2);
        return x;
    }

    private static Feederbank fullLists(int changes, int alternates) {
        Feederbank x = lists();
        for (int i = 0; i < changes; i++) {
            x.change(0, 0, 1, i);
        }
        for (int i = 0; i < alternates; i++) {
            x.alternate(i % 2, 0, 1, i);
        }
        return x;
    }

    private static Feederbank fullPlaces() {
        Feederbank x = lists();
        for (int i = 3; i < 12; i++) {
            x.place(0, i, 0, 0, 0);
        }
        return x;
    }

    private static Feederbank reels(int many) {
        Feederbank x = sorts(2);
        x.machine(7);
        x.machine(7);
        for (int i = 0; i < many; i++) {
            x.reel(0, 1, 0, 1);
        }
        return x;
    }

    private static Feederbank machines(int many) {
        Feederbank x = reels(4);
        for (int i = 2; i < many; i++) {
            x.machine(1);
        }
        return x;
    }

    private static Feederbank orders(int many, int boards) {
        Feederbank x = line();
        x.product();
        for (int i = 0; i < many; i++) {
            x.order(0, boards, 0);
        }
        return x;
    }

    /** The call is taken once more, and refused behind that, as all that there is room for is there. */
    private static void isLast(int want, Feederbank x, Call call) {
        is("the last one that there is room for", call.on(x), want);
        refuses(STATE, x, call);
    }

    private static void newOne() {
        sentence("1: without sorts, products, reels, machines and orders", () -> {
            Maker none = Feederbank::new;
            refuses(INDEX, none, x -> x.learn(0));
            refuses(INDEX, none, x -> x.wear(0));
            refuses(INDEX, none, x -> x.parts(0));
            refuses(INDEX, none, x -> x.loaded(0, 0));
            refuses(INDEX, none, x -> x.late(0));
            refuses(INDEX, none, x -> x.stateOf(0));
        });
        sentence("1: at the tick 0", () -> is("now", new Feederbank().now(), 0));
        sentence("1: z is 1, limits 60 and 75, zones 150, 200, 250, and the speed 3 at first", () -> {
            Feederbank x = new Feederbank();
            is("z", x.seed(9), 1);
            is("paste", x.limit(false, 0), 60);
            is("eye", x.limit(true, 0), 75);
            is("zone 0", x.zone(0, 20), 150);
            is("zone 1", x.zone(1, 20), 200);
            is("zone 2", x.zone(2, 20), 250);
            is("speed", x.speed(1), 3);
        });
    }

    private static void sort() {
        Maker none = Feederbank::new;
        sentence("2: a size, 1 to 3", () -> range(1, 3, none, (x, v) -> x.sort(v, 1, 1, 100, 300, 0)));
        sentence("2: a height, 1 to 9", () -> range(1, 9, none, (x, v) -> x.sort(1, v, 1, 100, 300, 0)));
        sentence("2: a mass, 1 to 20", () -> range(1, 20, none, (x, v) -> x.sort(1, 1, v, 100, 300, 0)));
        sentence("2: the lowest heat, 100 to 300", () -> range(100, 300, none, (x, v) -> x.sort(1, 1, 1, v, 300, 0)));
        sentence("2: the highest heat, 100 to 300", () -> range(100, 300, none, (x, v) -> x.sort(1, 1, 1, 100, v, 0)));
        sentence("2: the highest one, not below", () -> range(200, 300, none, (x, v) -> x.sort(1, 1, 1, 200, v, 0)));
        sentence("2: both out of range", () -> {
            refuses(ARGUMENT, none, x -> x.sort(1, 1, 1, 99, 99, 0));
            refuses(ARGUMENT, none, x -> x.sort(1, 1, 1, 301, 301, 0));
        });
        sentence("2: a life, 10 to 999 ticks", () -> range(10, 999, none, (x, v) -> {
            // 0 has a meaning of its own, so that the range begins behind it.
            return x.sort(1, 1, 1, 100, 300, v);
        }));
        sentence("2: a life, 0 for none", () -> {
            is("life 0", new Feederbank().sort(1, 1, 1, 100, 300, 0), 0);
            refuses(ARGUMENT, none, x -> x.sort(1, 1, 1, 100, 300, 1));
            refuses(ARGUMENT, none, x -> x.sort(1, 1, 1, 100, 300, -1));
        });
        sentence("2: at most 10 sorts", () -> isLast(9, sorts(9), x -> x.sort(3, 9, 20, 300, 300, 999)));
        sentence("2: a number out of range, and there are 10", () -> {
            refuses(ARGUMENT, sorts(10), x -> x.sort(4, 1, 1, 100, 300, 0));
            refuses(ARGUMENT, sorts(10), x -> x.sort(1, 1, 1, 200, 199, 0));
            refuses(ARGUMENT, sorts(10), x -> x.sort(1, 1, 1, 100, 300, 9));
        });
    }

    private static void product() {
        sentence("3: at most 3 products", () -> {
            Feederbank x = new Feederbank();
            is("the first", x.product(), 0);
            is("the second", x.product(), 1);
            isLast(2, x, Feederbank::product);
        });
    }

    private static void place() {
        Maker lists = RefusalTests::lists;
        sentence("4: there is no such product", () -> numbered(2, lists, (x, v) -> x.place(v, 9, 9, 0, 0)));
        sentence("4: there is no such sort", () -> numbered(3, lists, (x, v) -> x.place(0, 9, 9, 0, v)));
        sentence("4: at x, 0 to 19", () -> range(0, 19, lists, (x, v) -> x.place(0, v, 9, 0, 0)));
        sentence("4: at y, 0 to 19", () -> range(0, 19, lists, (x, v) -> x.place(0, 9, v, 0, 0)));
        sentence("4: on the side 0 or 1", () -> range(0, 1, lists, (x, v) -> x.place(0, 9, 9, v, 0)));
        sentence("4: no two of a side at the same", () -> {
            Feederbank x = lists();
            refuses(UNSUPPORTED, x, y -> y.place(0, 0, 0, 0, 0));
            refuses(UNSUPPORTED, x, y -> y.place(0, 1, 0, 0, 2));
            refuses(UNSUPPORTED, x, y -> y.place(0, 2, 0, 1, 0));
            is("the other side", x.place(0, 0, 0, 1, 0), 3);
            is("the same x", x.place(0, 0, 1, 0, 0), 4);
            is("the same y", x.place(0, 2, 0, 0, 0), 5);
            is("x and y the other way round", x.place(0, 0, 2, 1, 0), 6);
            is("another product", x.place(1, 0, 0, 0, 0), 0);
        });
        sentence("4: boards of the product were ordered", () -> {
            Feederbank x = lists();
            x.order(0, 1, 0);
            refuses(UNSUPPORTED, x, y -> y.place(0, 9, 9, 0, 0));
            is("the other one", x.place(1, 9, 9, 0, 0), 0);
        });
        sentence("4: at most 12 places", () -> {
            Feederbank x = lists();
            for (int i = 3; i < 11; i++) {
                is("place", x.place(0, i, 0, i % 2, 0), i);
            }
            is("the last one", x.place(0, 19, 19, 1, 0), 11);
            refuses(STATE, x, y -> y.place(0, 18, 18, 0, 0));
            refuses(STATE, x, y -> y.place(0, 18, 18, 1, 0));
            is("another product", x.place(1, 18, 18, 0, 0), 0);
        });
        sentence("4: several apply", RefusalTests::placeOfSeveral);
    }

    private static void placeOfSeveral() {
        Feederbank x = fullPlaces();
        refuses(INDEX, x, y -> y.place(2, 20, 0, 0, 0));
        refuses(INDEX, x, y -> y.place(0, 0, -1, 0, 3));
        refuses(INDEX, x, y -> y.place(0, 0, 0, 0, 3));
        refuses(INDEX, x, y -> y.place(0, 9, 9, 0, -1));
        refuses(ARGUMENT, x, y -> y.place(0, 0, 0, 2, 0));
        refuses(ARGUMENT, x, y -> y.place(0, 20, 9, 0, 0));
        refuses(UNSUPPORTED, x, y -> y.place(0, 0, 0, 0, 0));
        x.order(0, 1, 0);
        refuses(INDEX, x, y -> y.place(0, 20, 9, 0, 3));
        refuses(ARGUMENT, x, y -> y.place(0, 20, 9, 0, 0));
        refuses(UNSUPPORTED, x, y -> y.place(0, 9, 9, 0, 0));
    }

    /** Serial numbers 0 and 1 of the product 0 were begun by the printer, 2 was not. */
    private static Feederbank begun() {
        Feederbank x = line();
        x.sort(1, 1, 1, 100, 300, 0);
        x.product();
        x.place(1, 0, 0, 0, 0);
        x.order(0, 3, 0);
        x.tick(4);
        return x;
    }

    private static void change() {
        Maker lists = RefusalTests::lists;
        sentence("5: there is no such product", () -> {
            Maker placed = () -> {
                Feederbank x = lists();
                x.place(1, 0, 0, 0, 0);
                return x;
            };
            numbered(2, placed, (x, v) -> x.change(v, 0, 1, 0));
        });
        sentence("5: there is no such place", () -> {
            numbered(3, lists, (x, v) -> x.change(0, v, 1, 0));
            refuses(INDEX, lists, x -> x.change(1, 0, 1, 0));
        });
        sentence("5: there is no such sort", () -> numbered(3, lists, (x, v) -> x.change(0, 0, v, 0)));
        sentence("5: the serial number, 0 to 99", () -> range(0, 99, lists, (x, v) -> x.change(0, 0, 1, v)));
        sentence("5: a board with that serial number, or a later one, was begun by the printer", () -> {
            refuses(UNSUPPORTED, RefusalTests::begun, x -> x.change(0, 0, 1, 0));
            refuses(UNSUPPORTED, RefusalTests::begun, x -> x.change(0, 0, 1, 1));
            is("the next one", begun().change(0, 0, 1, 2), 0);
            is("of another product", begun().change(1, 0, 1, 0), 0);
            Feederbank x = begun();
            x.tick(3);
            refuses(UNSUPPORTED, x, y -> y.change(0, 0, 1, 2));
            is("the one behind", x.change(0, 0, 1, 3), 0);
            x.tick(100);
            refuses(UNSUPPORTED, x, y -> y.change(0, 0, 1, 2));
        });
        sentence("5: none was begun, not by waiting either", () -> {
            Feederbank x = line();
            x.order(0, 1, 0);
            is("change of a board that waits", x.change(0, 0, 0, 0), 0);
        });
        sentence("5: a board that was begun and washed was begun", () -> {
            Feederbank x = line();
            x.tick(10);
            x.limit(false, 100);
            x.order(0, 1, 0);
            x.tick(1);
            x.setAside(0);
            x.tick(3);
            is("washed", x.stateOf(0), 'w');
            refuses(UNSUPPORTED, x, y -> y.change(0, 0, 0, 0));
        });
        sentence("5: returns the sort that the place needed there before", () -> {
            Feederbank x = lists();
            is("none told", x.change(0, 0, 1, 10), 0);
            is("ahead of it", x.change(0, 0, 2, 9), 0);
            is("behind it", x.change(0, 0, 2, 11), 1);
            is("there", x.change(0, 0, 0, 10), 1);
        });
        sentence("5: at most 8 changes of all products", () -> {
            Feederbank x = fullLists(7, 0);
            x.place(1, 0, 0, 0, 2);
            isLast(2, x, y -> y.change(1, 0, 1, 0));
            refuses(STATE, x, y -> y.change(0, 0, 1, 99));
        });
        sentence("5: several apply", RefusalTests::changeOfSeveral);
    }

    private static void changeOfSeveral() {
        refuses(INDEX, RefusalTests::lists, x -> x.change(0, 0, 3, 100));
        refuses(INDEX, RefusalTests::lists, x -> x.change(0, 3, 0, -1));
        refuses(INDEX, RefusalTests::begun, x -> x.change(0, 1, 0, 0));
        refuses(INDEX, RefusalTests::begun, x -> x.change(0, 0, 2, 1));
        refuses(ARGUMENT, RefusalTests::begun, x -> x.change(0, 0, 0, -1));
        refuses(ARGUMENT, () -> fullLists(8, 0), x -> x.change(0, 0, 0, 100));
        refuses(INDEX, () -> fullLists(8, 0), x -> x.change(-1, 0, 0, 0));
        Feederbank x = begun();
        for (int i = 0; i < 8; i++) {
            x.change(0, 0, 0, 2);
        }
        refuses(UNSUPPORTED, x, y -> y.change(0, 0, 0, 1));
        refuses(STATE, x, y -> y.change(0, 0, 0, 2));
        refuses(ARGUMENT, x, y -> y.change(0, 0, 0, -1));
    }

    private static void alternate() {
        Maker lists = RefusalTests::lists;
        sentence("6: there is no such product", () -> numbered(2, lists, (x, v) -> x.alternate(v, 0, 1, 0)));
        sentence("6: there is no such sort", () -> numbered(2, () -> sortsAndProduct(2), (x, v) -> x.alternate(0, v, 1 - v, 0)));
        sentence("6: there is no such sort, for the other one", () -> {
            numbered(2, () -> sortsAndProduct(2), (x, v) -> x.alternate(0, v == 0 ? 1 : 0, v, 0));
        });
        sentence("6: the serial number, 0 to 99", () -> range(0, 99, lists, (x, v) -> x.alternate(0, 0, 1, v)));
        sentence("6: both are the same", () -> {
            refuses(UNSUPPORTED, lists, x -> x.alternate(0, 0, 0, 0));
            refuses(UNSUPPORTED, lists, x -> x.alternate(1, 2, 2, 99));
        });
        sentence("6: both are of unlike sizes", () -> {
            refuses(UNSUPPORTED, lists, x -> x.alternate(0, 0, 2, 0));
            refuses(UNSUPPORTED, lists, x -> x.alternate(0, 2, 0, 0));
        });
        sentence("6: at most 8 alternates of all products", () -> {
            Feederbank x = fullLists(0, 7);
            isLast(8, x, y -> y.alternate(1, 1, 0, 99));
            refuses(STATE, x, y -> y.alternate(0, 0, 1, 0));
        });
        sentence("6: changes and alternates have room each", () -> {
            Feederbank x = fullLists(8, 7);
            is("the 8th alternate", x.alternate(0, 0, 1, 0), 8);
            Feederbank y = fullLists(7, 8);
            is("the 8th change", y.change(0, 1, 0, 0), 1);
        });
        sentence("6: several apply", () -> {
            refuses(INDEX, lists, x -> x.alternate(2, 0, 0, 100));
            refuses(INDEX, lists, x -> x.alternate(0, 3, 3, 0));
            refuses(INDEX, lists, x -> x.alternate(0, 0, 3, -1));
            refuses(ARGUMENT, lists, x -> x.alternate(0, 0, 0, 100));
            refuses(ARGUMENT, lists, x -> x.alternate(0, 0, 2, -1));
            refuses(INDEX, () -> fullLists(0, 8), x -> x.alternate(0, -1, 0, 0));
            refuses(ARGUMENT, () -> fullLists(0, 8), x -> x.alternate(0, 0, 1, 100));
            refuses(UNSUPPORTED, () -> fullLists(0, 8), x -> x.alternate(0, 1, 1, 0));
            refuses(UNSUPPORTED, () -> fullLists(0, 8), x -> x.alternate(0, 1, 2, 0));
        });
    }

    private static Feederbank sortsAndProduct(int many) {
        Feederbank x = sorts(many);
        x.product();
        return x;
    }

    private static void needed() {
        Maker lists = RefusalTests::lists;
        sentence("7: there is no such product", () -> {
            Maker placed = () -> {
                Feederbank x = lists();
                x.place(1, 0, 0, 0, 0);
                return x;
            };
            numbered(2, placed, (x, v) -> x.needed(v, 0, 0));
        });
        sentence("7: there is no such place", () -> {
            numbered(3, lists, (x, v) -> x.needed(0, v, 0));
            refuses(INDEX, lists, x -> x.needed(1, 0, 0));
        });
        sentence("7: the serial number, 0 to 99", () -> range(0, 99, lists, (x, v) -> x.needed(0, 0, v)));
        sentence("7: several apply", () -> {
            refuses(INDEX, lists, x -> x.needed(0, 3, 100));
            refuses(INDEX, lists, x -> x.needed(-1, 0, -1));
        });
        sentence("7: a question changes nothing", () -> onlyAsks(lists(), x -> x.needed(0, 0, 99)));
    }

    private static void reel() {
        Maker two = () -> sorts(2);
        sentence("8: there is no such sort", () -> numbered(2, two, (x, v) -> x.reel(v, 0, 0, 1)));
        sentence("8: there is no such real sort", () -> numbered(2, two, (x, v) -> x.reel(0, v, 0, 1)));
        sentence("8: of a lot, 0 to 99", () -> range(0, 99, two, (x, v) -> x.reel(0, 0, v, 1)));
        sentence("8: with 1 to 200 parts", () -> range(1, 200, two, (x, v) -> x.reel(0, 0, 0, v)));
        sentence("8: at most 20 reels", () -> isLast(19, reels(19), x -> x.reel(1, 0, 99, 200)));
        sentence("8: several apply", () -> {
            refuses(INDEX, two, x -> x.reel(2, 0, 100, 1));
            refuses(INDEX, two, x -> x.reel(0, 2, 0, 0));
            refuses(INDEX, () -> reels(20), x -> x.reel(0, -1, 0, 1));
            refuses(ARGUMENT, () -> reels(20), x -> x.reel(0, 0, -1, 1));
            refuses(ARGUMENT, () -> reels(20), x -> x.reel(0, 0, 0, 201));
        });
    }

    private static void askedOfReels() {
        Maker four = () -> reels(4);
        sentence("9: there is no such reel", () -> numbered(4, four, (x, v) -> x.parts(v)));
        sentence("10: there is no such reel", () -> numbered(4, four, (x, v) -> x.lifeLeft(v)));
        sentence("12: there is no such reel", () -> numbered(4, four, (x, v) -> x.isFit(v)));
        sentence("44: there is no such reel", () -> numbered(4, four, (x, v) -> x.suspicions(v)));
        sentence("9, 10, 12, 44: the last of 20", () -> {
            Feederbank x = reels(20);
            is("parts", x.parts(19), 1);
            is("lifeLeft", x.lifeLeft(19), 1000);
            is("isFit", x.isFit(19), true);
            is("suspicions", x.suspicions(19), 0);
            refuses(INDEX, x, y -> y.parts(20));
        });
        sentence("9, 10, 12, 44: a question changes nothing", () -> {
            onlyAsks(reels(1), x -> x.parts(0));
            onlyAsks(reels(1), x -> x.lifeLeft(0));
            onlyAsks(reels(1), x -> x.isFit(0));
            onlyAsks(reels(1), x -> x.suspicions(0));
        });
        sentence("11: there is no such reel", () -> numbered(4, four, (x, v) -> x.bake(v)));
        sentence("11: it is loaded", () -> {
            Feederbank x = reels(4);
            x.load(0, 0, 0);
            refuses(UNSUPPORTED, x, y -> y.bake(0));
            x.load(0, 0, 1);
            is("it is unloaded", x.bake(0), 1000);
        });
        sentence("11: it is spliced", () -> {
            Feederbank x = reels(4);
            x.load(0, 0, 0);
            x.splice(0, 1);
            refuses(UNSUPPORTED, x, y -> y.bake(1));
            x.load(0, 0, 2);
            is("it is not spliced any more", x.bake(1), 1000);
        });
        sentence("11: it was baked", () -> {
            Feederbank x = reels(1);
            is("once", x.bake(0), 1000);
            refuses(UNSUPPORTED, x, y -> y.bake(0));
            x.load(1, 5, 0);
            refuses(UNSUPPORTED, x, y -> y.bake(0));
        });
    }

    private static void machine() {
        Maker two = () -> reels(4);
        sentence("13: the sizes as bits, 1 to 7", () -> range(1, 7, two, (x, v) -> x.machine(v)));
        sentence("13: at most 3 machines", () -> isLast(2, reels(0), x -> x.machine(7)));
        sentence("13: an order was told", () -> {
            refuses(STATE, () -> orders(1, 1), x -> x.machine(7));
            is("none was told", orders(0, 0).machine(7), 1);
        });
        sentence("13: several apply", () -> {
            refuses(ARGUMENT, () -> machines(3), x -> x.machine(8));
            refuses(ARGUMENT, () -> orders(1, 1), x -> x.machine(0));
        });
    }

    private static void load() {
        Maker two = () -> reels(4);
        sentence("14: there is no such machine", () -> numbered(2, two, (x, v) -> x.load(v, 0, 0)));
        sentence("14: there is no such machine, of none and of 3", () -> {
            refuses(INDEX, () -> sorts(1), x -> x.load(0, 0, 0));
            numbered(3, () -> machines(3), (x, v) -> x.load(v, 0, 0));
        });
        sentence("14: the slot, 0 to 5", () -> numbered(6, two, (x, v) -> x.load(1, v, 0)));
        sentence("14: there is no such reel", () -> numbered(4, two, (x, v) -> x.load(0, 0, v)));
        sentence("14: the reel is loaded", () -> {
            Feederbank x = reels(4);
            x.load(0, 3, 2);
            refuses(UNSUPPORTED, x, y -> y.load(0, 3, 2));
            refuses(UNSUPPORTED, x, y -> y.load(0, 4, 2));
            refuses(UNSUPPORTED, x, y -> y.load(1, 3, 2));
            is("it is not loaded any more", x.load(0, 3, 1), 2);
            is("so that it can be", x.load(0, 4, 2), -1);
        });
        sentence("14: the reel is spliced", () -> {
            Feederbank x = reels(4);
            x.load(0, 3, 2);
            x.splice(2, 0);
            refuses(UNSUPPORTED, x, y -> y.load(0, 3, 0));
            refuses(UNSUPPORTED, x, y -> y.load(1, 0, 0));
            is("the loaded one", x.load(0, 3, 1), 2);
            is("nor what was spliced behind it", x.load(1, 0, 0), -1);
        });
        sentence("14: returns -1 for none", () -> {
            Feederbank x = reels(4);
            for (int i = 0; i < 6; i++) {
                is("slot " + i, x.loaded(1, i), -1);
            }
            is("an empty slot", x.load(1, 5, 3), -1);
            is("reel 3", x.load(1, 5, 0), 3);
            is("reel 0", x.load(1, 5, 1), 0);
        });
        sentence("14: several apply", () -> {
            Feederbank x = reels(4);
            x.load(0, 0, 0);
            refuses(INDEX, x, y -> y.load(2, 0, 0));
            refuses(INDEX, x, y -> y.load(0, 6, 0));
            refuses(INDEX, x, y -> y.load(0, -1, 0));
        });
    }

    private static void splice() {
        Maker loaded = () -> {
            Feederbank x = reels(4);
            x.load(0, 0, 0);
            return x;
        };
        sentence("15: there is no such reel, for the loaded one", () -> {
            is("the first reel", loaded.make().splice(0, 1), 2);
            refuses(INDEX, loaded, x -> x.splice(4, 1));
            refuses(INDEX, loaded, x -> x.splice(-1, 1));
            refuses(INDEX, loaded, x -> x.splice(LEAST, 1));
            refuses(INDEX, loaded, x -> x.splice(MOST, 1));
        });
        sentence("15: there is no such reel, for the other one", () -> {
            is("the last reel", loaded.make().splice(0, 3), 2);
            refuses(INDEX, loaded, x -> x.splice(0, 4));
            refuses(INDEX, loaded, x -> x.splice(0, -1));
            refuses(INDEX, loaded, x -> x.splice(0, LEAST));
            refuses(INDEX, loaded, x -> x.splice(0, MOST));
        });
        sentence("15: the first one is not loaded", () -> refuses(UNSUPPORTED, loaded, x -> x.splice(1, 2)));
        sentence("15: the first one is spliced, which is not loaded", () -> {
            Feederbank x = loaded.make();
            x.splice(0, 1);
            refuses(UNSUPPORTED, x, y -> y.splice(1, 2));
        });
        sentence("15: the first one has one behind", () -> {
            Feederbank x = loaded.make();
            x.splice(0, 1);
            refuses(UNSUPPORTED, x, y -> y.splice(0, 2));
            refuses(UNSUPPORTED, x, y -> y.splice(0, 1));
        });
        sentence("15: the other one is loaded", () -> {
            Feederbank x = loaded.make();
            x.load(0, 1, 1);
            refuses(UNSUPPORTED, x, y -> y.splice(0, 1));
            refuses(UNSUPPORTED, x, y -> y.splice(0, 0));
        });
        sentence("15: the other one is spliced", () -> {
            Feederbank x = loaded.make();
            x.load(1, 5, 1);
            x.splice(0, 2);
            refuses(UNSUPPORTED, x, y -> y.splice(1, 2));
        });
        sentence("15: they say unlike sorts", () -> {
            Feederbank x = loaded.make();
            x.reel(1, 1, 0, 1);
            x.reel(0, 0, 0, 5);
            refuses(UNSUPPORTED, x, y -> y.splice(0, 4));
            is("they say the same, whatever they are", x.splice(0, 5), 6);
        });
        sentence("15: several apply", () -> {
            Feederbank x = loaded.make();
            refuses(INDEX, x, y -> y.splice(1, 4));
            refuses(INDEX, x, y -> y.splice(-1, 0));
        });
        sentence("16: there is no such machine", () -> {
            numbered(2, () -> reels(0), (x, v) -> x.loaded(v, 0));
            refuses(INDEX, Feederbank::new, x -> x.loaded(0, 0));
        });
        sentence("16: there is no such slot", () -> numbered(6, () -> reels(0), (x, v) -> x.loaded(1, v)));
        sentence("16: a question changes nothing", () -> onlyAsks(loaded.make(), x -> x.loaded(0, 0)));
    }

    private static Feederbank inOven() {
        Feederbank x = line();
        x.order(0, 1, 0);
        x.tick(8);
        return x;
    }

    private static void oven() {
        Maker none = Feederbank::new;
        sentence("17: the zone, 0 to 2", () -> range(0, 2, none, (x, v) -> x.zone(v, 100)));
        sentence("17: heats, 20 to 400", () -> {
            for (int zone = 0; zone < 3; zone++) {
                int number = zone;
                range(20, 400, none, (x, v) -> x.zone(number, v));
            }
        });
        sentence("17: a board is in the oven", () -> {
            Feederbank x = line();
            x.order(0, 1, 0);
            x.tick(7);
            is("it waits ahead of it", x.stationOf(0), -3);
            is("zone", x.zone(2, 250), 250);
            x.tick(1);
            is("it is in the oven", x.stationOf(0), 2);
            refuses(UNSUPPORTED, x, y -> y.zone(2, 250));
            x.tick(4);
            is("it is in the oven still", x.stationOf(0), 2);
            refuses(UNSUPPORTED, x, y -> y.zone(0, 20));
            x.tick(1);
            is("it is behind it", x.stationOf(0), -4);
            is("zone", x.zone(0, 20), 150);
        });
        sentence("17: several apply", () -> {
            refuses(ARGUMENT, RefusalTests::inOven, x -> x.zone(3, 100));
            refuses(ARGUMENT, RefusalTests::inOven, x -> x.zone(0, 401));
        });
        sentence("18: a speed, 1 to 9", () -> range(1, 9, none, (x, v) -> x.speed(v)));
        sentence("18: a board is in the oven", () -> {
            refuses(UNSUPPORTED, RefusalTests::inOven, x -> x.speed(3));
            Feederbank x = inOven();
            x.tick(4);
            refuses(UNSUPPORTED, x, y -> y.speed(9));
            x.tick(1);
            is("speed", x.speed(9), 3);
        });
        sentence("18: several apply", () -> {
            refuses(ARGUMENT, RefusalTests::inOven, x -> x.speed(0));
            refuses(ARGUMENT, RefusalTests::inOven, x -> x.speed(10));
        });
        sentence("19: hundredths, 0 to 100", () -> {
            range(0, 100, none, (x, v) -> x.limit(true, v));
            range(0, 100, none, (x, v) -> x.limit(false, v));
        });
        sentence("19: each limit for itself", () -> {
            Feederbank x = new Feederbank();
            x.limit(true, 100);
            x.limit(false, 0);
            is("eye", x.limit(true, 1), 100);
            is("paste", x.limit(false, 1), 0);
        });
    }

    private static void stencils() {
        Maker lists = RefusalTests::lists;
        sentence("20: there is no such product", () -> numbered(2, lists, (x, v) -> x.wipe(v)));
        sentence("20: a third product has a stencil", () -> {
            Feederbank x = lists();
            x.product();
            is("wipe", x.wipe(2), 0);
            is("wear", x.wear(2), 0);
            refuses(INDEX, x, y -> y.wipe(3));
            refuses(INDEX, x, y -> y.wear(3));
        });
        sentence("21: there is no such product", () -> numbered(2, lists, (x, v) -> x.wear(v)));
        sentence("21: a question changes nothing", () -> onlyAsks(lists(), x -> x.wear(0)));
        sentence("22: there is no such sort", () -> numbered(3, lists, (x, v) -> x.learn(v)));
        sentence("22: whether that was asked for ahead", () -> {
            Feederbank x = lists();
            is("first", x.learn(0), false);
            is("again", x.learn(0), true);
            is("of another sort", x.learn(1), false);
        });
        sentence("23: there is no such sort", () -> numbered(10, () -> {
            Feederbank x = sorts(10);
            x.learn(0);
            x.learn(9);
            return x;
        }, (x, v) -> x.approve(v)));
        sentence("23: it was not asked for", () -> {
            Feederbank x = lists();
            x.learn(1);
            refuses(UNSUPPORTED, x, y -> y.approve(0));
            is("it was", x.approve(1), 1);
        });
        sentence("23: it is learned", () -> {
            Feederbank x = lists();
            x.learn(1);
            x.approve(1);
            refuses(UNSUPPORTED, x, y -> y.approve(1));
            x.learn(1);
            refuses(UNSUPPORTED, x, y -> y.approve(1));
        });
        sentence("23: how many are learned, all 10", () -> {
            Feederbank x = sorts(10);
            for (int i = 9; i >= 0; i--) {
                x.learn(i);
                is("approve", x.approve(i), 10 - i);
            }
        });
    }

    private static void order() {
        Maker two = () -> orders(0, 0);
        sentence("24: there is no such product", () -> {
            Maker placed = () -> {
                Feederbank x = orders(0, 0);
                x.place(1, 0, 0, 0, 0);
                return x;
            };
            numbered(2, placed, (x, v) -> x.order(v, 1, 0));
        });
        sentence("24: of 1 to 9 boards", () -> range(1, 9, two, (x, v) -> x.order(0, v, 0)));
        sentence("24: the due tick, 0 to 99999", () -> range(0, 99999, two, (x, v) -> x.order(0, 1, v)));
        sentence("24: the product has no places", () -> {
            Feederbank x = orders(0, 0);
            refuses(UNSUPPORTED, x, y -> y.order(1, 1, 0));
            x.place(1, 0, 0, 1, 0);
            is("it has one", x.order(1, 1, 0), 0);
        });
        sentence("24: at most 10 orders", () -> isLast(9, orders(9, 1), x -> x.order(0, 1, 0)));
        sentence("24: at most 40 boards of all orders", () -> {
            Feederbank x = orders(4, 9);
            x.place(1, 0, 0, 0, 0);
            refuses(STATE, x, y -> y.order(0, 5, 0));
            refuses(STATE, x, y -> y.order(1, 9, 0));
            is("just 40", x.order(1, 4, 0), 36);
            refuses(STATE, x, y -> y.order(0, 1, 0));
        });
        sentence("24: 39 boards leave room for one", () -> {
            Feederbank x = orders(4, 9);
            x.order(0, 3, 0);
            refuses(STATE, x, y -> y.order(0, 2, 0));
            is("the 40th", x.order(0, 1, 0), 39);
        });
        sentence("24: several apply", RefusalTests::orderOfSeveral);
    }

    private static void orderOfSeveral() {
        refuses(INDEX, () -> orders(0, 0), x -> x.order(2, 0, 0));
        refuses(ARGUMENT, () -> orders(0, 0), x -> x.order(1, 10, 0));
        refuses(ARGUMENT, () -> orders(0, 0), x -> x.order(1, 1, 100000));
        Feederbank ten = orders(10, 1);
        refuses(INDEX, ten, x -> x.order(-1, 1, 0));
        refuses(ARGUMENT, ten, x -> x.order(0, 1, -1));
        refuses(UNSUPPORTED, ten, x -> x.order(1, 1, 0));
        Feederbank forty = orders(4, 9);
        refuses(INDEX, forty, x -> x.order(2, 9, 0));
        refuses(ARGUMENT, forty, x -> x.order(0, 10, 0));
        refuses(ARGUMENT, forty, x -> x.order(0, MOST, 0));
        refuses(UNSUPPORTED, forty, x -> x.order(1, 9, 0));
        refuses(STATE, forty, x -> x.order(0, 9, 99999));
    }

    private static void time() {
        Maker none = Feederbank::new;
        sentence("25: z, 1 to 2147483646", () -> range(1, 2147483646, none, (x, v) -> x.seed(v)));
        sentence("26: ticks, 1 to 200", () -> range(1, 200, none, (x, v) -> x.tick(v)));
        sentence("26: how many ticks went by", () -> {
            Feederbank x = new Feederbank();
            x.tick(200);
            x.tick(1);
            is("now", x.now(), 201);
            onlyAsks(x, Feederbank::now);
        });
    }

    private static void askedOfBoards() {
        Maker three = () -> orders(1, 3);
        sentence("28: there is no such board", () -> numbered(3, three, (x, v) -> x.stateOf(v)));
        sentence("29: there is no such board", () -> numbered(3, three, (x, v) -> x.stationOf(v)));
        sentence("43: there is no such board", () -> numbered(3, three, (x, v) -> x.isHeld(v)));
        sentence("28, 29, 43: the last of 40", () -> {
            Feederbank x = orders(4, 9);
            x.order(0, 4, 0);
            is("stateOf", x.stateOf(39), 'w');
            is("stationOf", x.stationOf(39), -1);
            is("isHeld", x.isHeld(39), false);
            refuses(INDEX, x, y -> y.stateOf(40));
            refuses(INDEX, x, y -> y.stationOf(40));
            refuses(INDEX, x, y -> y.isHeld(40));
        });
        sentence("29: it is not in the line, nor ahead of the printer", () -> {
            refuses(NO_ELEMENT, Checks::ready, x -> x.stationOf(0));
            refuses(NO_ELEMENT, Checks::bench, x -> x.stationOf(0));
            refuses(NO_ELEMENT, Checks::left, x -> x.stationOf(0));
            refuses(NO_ELEMENT, Checks::scrap, x -> x.stationOf(0));
            is("scrap it is", scrap().stateOf(0), 's');
        });
        sentence("28: how a board is", () -> {
            is("ahead of the printer", three.make().stateOf(0), 'w');
            is("in the line", inOven().stateOf(0), 'l');
            is("at the bench", bench().stateOf(0), 'b');
            is("ready", ready().stateOf(0), 'r');
            is("left", left().stateOf(0), 'x');
        });
        sentence("28, 29, 43: a question changes nothing", () -> {
            onlyAsks(inOven(), x -> x.stateOf(0));
            onlyAsks(inOven(), x -> x.stationOf(0));
            onlyAsks(inOven(), x -> x.isHeld(0));
        });
        sentence("30, 31: there is no such station, by machines", () -> {
            Maker none = Feederbank::new;
            numbered(3, none, (x, v) -> x.waiting(v));
            numbered(3, none, (x, v) -> x.idle(v, true));
            for (int many = 2; many <= 3; many++) {
                int machines = many;
                numbered(many + 3, () -> machines(machines), (x, v) -> x.waiting(v));
                numbered(many + 3, () -> machines(machines), (x, v) -> x.idle(v, true));
                numbered(many + 3, () -> machines(machines), (x, v) -> x.idle(v, false));
            }
            numbered(4, Checks::line, (x, v) -> x.waiting(v));
            onlyAsks(inOven(), x -> x.waiting(0));
            onlyAsks(inOven(), x -> x.idle(0, false));
        });
    }

    private static void askedOfPlaces() {
        Maker three = () -> orders(1, 3);
        sentence("32: there is no such board", () -> numbered(3, three, (x, v) -> x.at(v, 0, 'r')));
        sentence("32: there is no such place", () -> numbered(1, three, (x, v) -> x.at(0, v, 'r')));
        sentence("32: there is no such place, of 12", () -> {
            Maker twelve = () -> {
                Feederbank x = line(1, 100, 300, 12);
                x.order(0, 1, 0);
                return x;
            };
            numbered(12, twelve, (x, v) -> x.at(0, v, 'r'));
        });
        sentence("32: there is no such letter", () -> {
            Feederbank x = orders(1, 1);
            int taken = 0;
            for (int c = 0; c < 65536; c++) {
                try {
                    x.at(0, 0, (char) c);
                    taken++;
                } catch (IllegalArgumentException e) {
                    continue;
                }
            }
            is("letters", taken, 5);
            refuses(ARGUMENT, x, y -> y.at(0, 0, 'q'));
            refuses(ARGUMENT, x, y -> y.at(0, 0, (char) 0));
            refuses(ARGUMENT, x, y -> y.at(0, 0, (char) 65535));
        });
        sentence("32: several apply", () -> {
            refuses(INDEX, three, x -> x.at(3, 0, 'q'));
            refuses(INDEX, three, x -> x.at(0, 1, 'q'));
            refuses(INDEX, Feederbank::new, x -> x.at(0, 0, 'q'));
        });
        sentence("32: -1 for none, if it was not printed, if it was not dealt", () -> {
            Feederbank x = three.make();
            String first = "";
            for (char c : new char[] {'r', 'v', 'd', 'h', 'c'}) {
                first += x.at(0, 0, c) + " ";
            }
            is("of a board that waits", first, "-1 -1 -1 0 0 ");
            onlyAsks(x, y -> y.at(0, 0, 'v'));
        });
        sentence("33: there is no such board", () -> numbered(1, Checks::ready, (x, v) -> x.heatBits(v, 0)));
        sentence("33: there is no such side", () -> {
            refuses(INDEX, Checks::ready, x -> x.heatBits(0, -1));
            refuses(INDEX, Checks::ready, x -> x.heatBits(0, 2));
            refuses(INDEX, Checks::ready, x -> x.heatBits(0, LEAST));
            refuses(INDEX, Checks::ready, x -> x.heatBits(0, MOST));
            onlyAsks(ready(), x -> x.heatBits(0, 0));
        });
        sentence("33: it was not in the oven with it", () -> {
            Feederbank x = line();
            x.order(0, 1, 0);
            x.tick(7);
            refuses(NO_ELEMENT, x, y -> y.heatBits(0, 0));
            refuses(NO_ELEMENT, Checks::ready, y -> y.heatBits(0, 1));
        });
        sentence("33: several apply", () -> {
            refuses(INDEX, three, x -> x.heatBits(0, 2));
            refuses(INDEX, three, x -> x.heatBits(3, 0));
        });
        sentence("34: there is no such board", () -> numbered(1, Checks::ready, (x, v) -> x.fault(v, 0)));
        sentence("34: there is no such place", () -> numbered(1, Checks::ready, (x, v) -> x.fault(0, v)));
        sentence("34: its side was not in the oven", () -> {
            Feederbank x = line();
            x.order(0, 1, 0);
            x.tick(7);
            refuses(NO_ELEMENT, x, y -> y.fault(0, 0));
            x.tick(1);
            onlyAsks(x, y -> y.fault(0, 0));
        });
        sentence("34: several apply", () -> refuses(INDEX, three, x -> x.fault(0, 1)));
    }

    private static void atTheBench() {
        Maker bench = Checks::bench;
        sentence("35: there is no such board", () -> numbered(1, bench, (x, v) -> x.mend(v, 0, 0)));
        sentence("35: there is no such place", () -> numbered(1, bench, (x, v) -> x.mend(0, v, 0)));
        sentence("35: there is no such reel", () -> numbered(1, bench, (x, v) -> x.mend(0, 0, v)));
        sentence("35: the board is not at the bench", () -> {
            refuses(UNSUPPORTED, () -> orders(1, 1), x -> x.mend(0, 0, 0));
            refuses(UNSUPPORTED, RefusalTests::inOven, x -> x.mend(0, 0, 0));
            refuses(UNSUPPORTED, Checks::ready, x -> x.mend(0, 0, 0));
            refuses(UNSUPPORTED, Checks::left, x -> x.mend(0, 0, 0));
            refuses(UNSUPPORTED, Checks::scrap, x -> x.mend(0, 0, 0));
        });
        sentence("35: in the eye with a call is not at the bench", () -> {
            Feederbank x = line(1, 100, 200, 1);
            x.order(0, 1, 0);
            x.tick(15);
            is("called", x.at(0, 0, 'c'), 1);
            refuses(UNSUPPORTED, x, y -> y.mend(0, 0, 0));
            refuses(UNSUPPORTED, x, y -> y.judge(0, 0));
        });
        sentence("35: the place is not called", () -> {
            Feederbank x = oneOfTwo();
            refuses(UNSUPPORTED, x, y -> y.mend(0, 1, 1));
            is("the one that is", x.mend(0, 0, 0), 'r');
        });
        sentence("35: the reel is not fit", () -> {
            Feederbank x = bench();
            x.sort(1, 1, 1, 100, 300, 10);
            x.reel(0, 0, 0, 1);
            x.setAside(1);
            refuses(UNSUPPORTED, x, y -> y.mend(0, 0, 1));
            x.alternate(0, 0, 1, 0);
            x.reel(1, 1, 0, 1);
            x.load(0, 5, 2);
            x.tick(10);
            refuses(UNSUPPORTED, x, y -> y.mend(0, 0, 2));
        });
        sentence("35: the reel has no parts", () -> {
            Feederbank x = bench();
            x.order(0, 1, 0);
            x.tick(30);
            x.reel(0, 0, 0, 1);
            is("its last part", x.mend(0, 0, 1), 'r');
            refuses(UNSUPPORTED, x, y -> y.mend(1, 0, 1));
        });
        sentence("35: the reel says another sort", () -> {
            Feederbank x = bench();
            x.sort(1, 1, 1, 100, 300, 0);
            x.reel(1, 0, 0, 9);
            refuses(UNSUPPORTED, x, y -> y.mend(0, 0, 1));
            x.alternate(0, 0, 1, 1);
            refuses(UNSUPPORTED, x, y -> y.mend(0, 0, 1));
            x.alternate(0, 0, 1, 0);
            is("it says an alternate", x.mend(0, 0, 1), 'r');
        });
        sentence("35: several apply", () -> {
            refuses(INDEX, Checks::ready, x -> x.mend(0, 0, 1));
            refuses(INDEX, Checks::ready, x -> x.mend(0, 1, 0));
            refuses(INDEX, Checks::ready, x -> x.mend(1, 0, 0));
        });
        sentence("36: there is no such board", () -> numbered(1, bench, (x, v) -> x.judge(v, 0)));
        sentence("36: there is no such place", () -> numbered(1, bench, (x, v) -> x.judge(0, v)));
        sentence("36: the board is not at the bench", () -> {
            refuses(UNSUPPORTED, () -> orders(1, 1), x -> x.judge(0, 0));
            refuses(UNSUPPORTED, RefusalTests::inOven, x -> x.judge(0, 0));
            refuses(UNSUPPORTED, Checks::ready, x -> x.judge(0, 0));
            refuses(UNSUPPORTED, Checks::left, x -> x.judge(0, 0));
            refuses(UNSUPPORTED, Checks::scrap, x -> x.judge(0, 0));
        });
        sentence("36: the place is not called", () -> {
            Feederbank x = oneOfTwo();
            refuses(UNSUPPORTED, x, y -> y.judge(0, 1));
            is("the one that is", x.judge(0, 0), false);
            refuses(UNSUPPORTED, x, y -> y.judge(0, 0));
        });
        sentence("36: several apply", () -> refuses(INDEX, Checks::ready, x -> x.judge(0, 1)));
        sentence("37: a question changes nothing", () -> onlyAsks(bench(), Feederbank::falseCalls));
    }

    /** A board at the bench: place 0 is too hot, place 1 of another sort is not. */
    private static Feederbank oneOfTwo() {
        Feederbank x = line(1, 100, 200, 1);
        x.sort(1, 1, 2, 100, 300, 0);
        x.place(0, 9, 0, 0, 1);
        x.reel(1, 1, 5, 9);
        x.load(0, 1, 1);
        x.order(0, 1, 0);
        x.tick(30);
        return x;
    }

    private static void tests() {
        Maker ready = Checks::ready;
        sentence("38: there is no such product", () -> numbered(2, () -> orders(0, 0), (x, v) -> x.cover(v, 0)));
        sentence("38: the places as bits, 0 to 4095", () -> range(0, 4095, ready, (x, v) -> x.cover(0, v)));
        sentence("38: several apply", () -> {
            refuses(INDEX, ready, x -> x.cover(1, 4096));
            refuses(INDEX, ready, x -> x.cover(-1, -1));
        });
        sentence("38: none at first", () -> is("cover", ready().cover(0, 1), 0));
        sentence("39: there is no such board", () -> numbered(1, ready, (x, v) -> x.test(v)));
        sentence("39: it is not ready", () -> {
            refuses(UNSUPPORTED, () -> orders(1, 1), x -> x.test(0));
            refuses(UNSUPPORTED, RefusalTests::inOven, x -> x.test(0));
            refuses(UNSUPPORTED, Checks::bench, x -> x.test(0));
            refuses(UNSUPPORTED, Checks::left, x -> x.test(0));
            refuses(UNSUPPORTED, Checks::scrap, x -> x.test(0));
        });
        sentence("40: there is no such board", () -> numbered(1, RefusalTests::unknown, (x, v) -> x.causes(v)));
        sentence("40: it is not ready", () -> {
            refuses(NO_ELEMENT, () -> orders(1, 1), x -> x.causes(0));
            refuses(NO_ELEMENT, RefusalTests::inOven, x -> x.causes(0));
            refuses(NO_ELEMENT, Checks::bench, x -> x.causes(0));
            refuses(NO_ELEMENT, Checks::left, x -> x.causes(0));
            refuses(NO_ELEMENT, Checks::scrap, x -> x.causes(0));
        });
        sentence("40: it was not 'u' as it was tested last", () -> {
            refuses(NO_ELEMENT, ready, x -> x.causes(0));
            Feederbank x = ready();
            x.test(0);
            refuses(NO_ELEMENT, x, y -> y.causes(0));
            onlyAsks(unknown(), y -> y.causes(0));
        });
        sentence("40: it was not since it is ready", () -> {
            Feederbank x = unknown();
            is("causes", x.causes(0), 1);
            x.setAside(0);
            refuses(NO_ELEMENT, x, y -> y.causes(0));
            x.reel(0, 0, 0, 9);
            is("ready anew", x.mend(0, 0, 1), 'r');
            refuses(NO_ELEMENT, x, y -> y.causes(0));
        });
        sentence("41: there is no such board", () -> {
            Maker good = () -> {
                Feederbank x = ready();
                x.test(0);
                return x;
            };
            numbered(1, good, (x, v) -> x.leave(v));
        });
        sentence("41: it is not ready", () -> {
            refuses(UNSUPPORTED, () -> orders(1, 1), x -> x.leave(0));
            refuses(UNSUPPORTED, RefusalTests::inOven, x -> x.leave(0));
            refuses(UNSUPPORTED, Checks::bench, x -> x.leave(0));
            refuses(UNSUPPORTED, Checks::left, x -> x.leave(0));
            refuses(UNSUPPORTED, Checks::scrap, x -> x.leave(0));
        });
        sentence("41: it was not 'g' as it was tested last", () -> {
            refuses(UNSUPPORTED, ready, x -> x.leave(0));
            refuses(UNSUPPORTED, RefusalTests::unknown, x -> x.leave(0));
        });
        sentence("41: it was not 'g' since it is so", () -> {
            Feederbank x = ready();
            x.test(0);
            x.setAside(0);
            x.reel(0, 0, 0, 9);
            is("ready anew", x.mend(0, 0, 1), 'r');
            refuses(UNSUPPORTED, x, y -> y.leave(0));
            x.test(0);
            is("tested anew", x.leave(0), 1);
        });
    }

    /** A board that is too hot, judged false, and 'u' as it was tested. */
    private static Feederbank unknown() {
        Feederbank x = bench();
        x.judge(0, 0);
        x.test(0);
        return x;
    }

    private static void lies() {
        sentence("42: there is no such reel", () -> numbered(4, () -> reels(4), (x, v) -> x.setAside(v)));
        sentence("42: it is set aside", () -> {
            Feederbank x = reels(4);
            is("once", x.setAside(3), 0);
            refuses(UNSUPPORTED, x, y -> y.setAside(3));
            is("another one", x.setAside(2), 0);
        });
        sentence("45: there is no such reel", () -> numbered(4, () -> reels(4), (x, v) -> x.recall(v, false)));
        sentence("45: a lot, 0 to 99", () -> range(0, 99, () -> reels(4), (x, v) -> x.recall(v, true)));
        sentence("45: a lot needs no reel", () -> is("recall", new Feederbank().recall(99, true), 0));
        sentence("45: the number of a reel is none of a lot", () -> {
            refuses(INDEX, () -> reels(4), x -> x.recall(99, false));
            is("of a lot", reels(4).recall(4, true), 0);
            onlyAsks(left(), x -> x.recall(5, true));
        });
        sentence("46: there is no such reel", () -> {
            numbered(1, Checks::left, (x, v) -> x.recalled(v, false, 0));
            refuses(INDEX, Checks::ready, x -> x.recalled(1, false, 0));
        });
        sentence("46: the lot is out of range", () -> {
            refuses(ARGUMENT, Checks::left, x -> x.recalled(-1, true, 0));
            refuses(ARGUMENT, Checks::left, x -> x.recalled(100, true, 0));
            refuses(ARGUMENT, Checks::left, x -> x.recalled(LEAST, true, 0));
            refuses(ARGUMENT, Checks::left, x -> x.recalled(MOST, true, 0));
        });
        sentence("46: there is none", () -> {
            is("the only one", left().recalled(5, true, 0), 0);
            for (int index : new int[] {-1, 1, LEAST, MOST}) {
                refuses(NO_ELEMENT, Checks::left, x -> x.recalled(5, true, index));
                refuses(NO_ELEMENT, Checks::left, x -> x.recalled(0, false, index));
            }
            refuses(NO_ELEMENT, Checks::left, x -> x.recalled(0, true, 0));
            refuses(NO_ELEMENT, Checks::left, x -> x.recalled(99, true, 0));
            refuses(NO_ELEMENT, Checks::ready, x -> x.recalled(5, true, 0));
            onlyAsks(left(), x -> x.recalled(5, true, 0));
        });
        sentence("46: several apply", () -> {
            refuses(INDEX, Checks::left, x -> x.recalled(1, false, 1));
            refuses(ARGUMENT, Checks::left, x -> x.recalled(100, true, -1));
        });
    }

    private static void numbers() {
        sentence("47: there is no such product", () -> numbered(2, RefusalTests::lists, (x, v) -> x.shortage(v, 1, 0)));
        sentence("47: there is no such sort", () -> numbered(3, RefusalTests::lists, (x, v) -> x.shortage(0, 1, v)));
        sentence("47: how many boards, 1 to 40", () -> range(1, 40, RefusalTests::lists, (x, v) -> x.shortage(0, v, 0)));
        sentence("47: several apply", () -> {
            refuses(INDEX, RefusalTests::lists, x -> x.shortage(2, 0, 0));
            refuses(INDEX, RefusalTests::lists, x -> x.shortage(0, 41, 3));
            onlyAsks(lists(), x -> x.shortage(0, 1, 0));
        });
        sentence("48: there is no such order", () -> {
            numbered(2, () -> orders(2, 3), (x, v) -> x.late(v));
            numbered(10, () -> orders(10, 1), (x, v) -> x.late(v));
            onlyAsks(left(), x -> x.late(0));
        });
        sentence("51: there are none", () -> {
            refuses(ARITHMETIC, Checks::line, x -> x.leftShare());
            is("of one that waits", orders(1, 1).leftShare(), 0f);
            is("of one that left", left().leftShare(), 1f);
            onlyAsks(left(), x -> x.leftShare());
        });
        sentence("52: there are none", () -> {
            refuses(ARITHMETIC, Checks::line, x -> x.meanHeat());
            Feederbank x = line();
            x.order(0, 1, 0);
            x.tick(7);
            refuses(ARITHMETIC, x, y -> y.meanHeat());
            x.tick(1);
            is("of the first one in the oven", x.meanHeat(), 250.0);
            onlyAsks(x, y -> y.meanHeat());
        });
        sentence("49, 50, 53, 54: a question changes nothing", () -> {
            onlyAsks(left(), Feederbank::lost);
            onlyAsks(left(), Feederbank::washes);
            onlyAsks(left(), Feederbank::checksum);
            onlyAsks(left(), Feederbank::isSound);
        });
        sentence("of all numbers that may be given, none but the named exceptions comes of the farthest ones", () -> {
            IntFunction<Feederbank> made = i -> i == 0 ? new Feederbank() : i == 1 ? left() : fullPlaces();
            for (int i = 0; i < 3; i++) {
                Feederbank x = made.apply(i);
                for (int far : new int[] {LEAST, MOST}) {
                    refuses(INDEX, x, y -> y.place(far, far, far, far, far));
                    refuses(INDEX, x, y -> y.change(far, far, far, far));
                    refuses(INDEX, x, y -> y.alternate(far, far, far, far));
                    refuses(INDEX, x, y -> y.mend(far, far, far));
                    refuses(INDEX, x, y -> y.recalled(far, false, far));
                    refuses(ARGUMENT, x, y -> y.recalled(far, true, far));
                    refuses(INDEX, x, y -> y.shortage(far, far, far));
                    refuses(ARGUMENT, x, y -> y.sort(far, far, far, far, far, far));
                    refuses(ARGUMENT, x, y -> y.zone(far, far));
                }
            }
        });
    }

    public static void main(String[] args) {
        newOne();
        sort();
        product();
        place();
        change();
        alternate();
        needed();
        reel();
        askedOfReels();
        machine();
        load();
        splice();
        oven();
        stencils();
        order();
        time();
        askedOfBoards();
        askedOfPlaces();
        atTheBench();
        tests();
        lies();
        numbers();
        System.exit(end("RefusalTests"));
    }
}
