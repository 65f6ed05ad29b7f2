import java.lang.reflect.Array;
import java.lang.reflect.Field;

/**
 * Promise 54: no call makes a line unsound, so each thing that isSound checks is put out of order here behind the
 * face's back, by the names of the hidden fields, and put in order again.
 */
public final class SoundTests extends Checks {
    private static Object get(Object holder, String name) {
        try {
            Field field = holder.getClass().getDeclaredField(name);
            field.setAccessible(true);
            return field.get(holder);
        } catch (ReflectiveOperationException e) {
            throw new IllegalStateException("no field " + name);
        }
    }

    private static void set(Object holder, String name, Object value) {
        try {
            Field field = holder.getClass().getDeclaredField(name);
            field.setAccessible(true);
            field.set(holder, value);
        } catch (ReflectiveOperationException e) {
            throw new IllegalStateException("no field " + name);
        }
    }

    private static Object in(Object holder, String name, int index) {
        return Array.get(get(holder, name), index);
    }

    private static void put(Object holder, String name, int index, Object value) {
        Array.set(get(holder, name), index, value);
    }

    /** The line is sound, not so with another number in a field, and so again with its own. */
    private static void spoils(Feederbank x, Object holder, String name, Object value) {
        Object own = get(holder, name);
        is("sound", x.isSound(), true);
        set(holder, name, value);
        is("sound with another " + name, x.isSound(), false);
        set(holder, name, own);
        is("sound again", x.isSound(), true);
    }

    private static void spoils(Feederbank x, Object holder, String name, int index, Object value) {
        Object own = in(holder, name, index);
        is("sound", x.isSound(), true);
        put(holder, name, index, value);
        is("sound with another one in " + name, x.isSound(), false);
        put(holder, name, index, own);
        is("sound again", x.isSound(), true);
    }

    private static Feederbank many() {
        Feederbank x = line();
        x.sort(1, 1, 2, 100, 300, 0);
        x.reel(0, 1, 0, 9);
        for (int i = 2; i < 20; i++) {
            x.reel(1, 1, 0, 10);
        }
        x.place(0, 0, 0, 1, 0);
        for (int i = 0; i < 4; i++) {
            x.order(0, 9, 0);
        }
        x.order(0, 4, 0);
        return x;
    }

    private static void parts() {
        sentence("parts of reels are those told, of the first reel and of the last one", () -> {
            Feederbank x = many();
            for (int i = 0; i < 20; i += 19) {
                int parts = x.parts(i);
                spoils(x, in(x, "reels", i), "parts", parts - 1);
                spoils(x, in(x, "reels", i), "parts", parts + 1);
            }
        });
        sentence("those on boards", () -> {
            Feederbank x = ready();
            spoils(x, in(x, "boards", 0), "reels", 0, -1);
            Feederbank y = many();
            spoils(y, in(y, "boards", 0), "reels", 0, 0);
            spoils(y, in(y, "boards", 39), "reels", 1, 19);
        });
        sentence("in mending", () -> {
            Feederbank x = bench();
            x.mend(0, 0, 0);
            spoils(x, in(x, "reels", 0), "gone", 0);
            spoils(x, in(x, "reels", 0), "gone", 2);
        });
        sentence("and lost ones", () -> {
            Feederbank x = line();
            x.seed(losing(2));
            x.order(0, 1, 0);
            x.tick(5);
            spoils(x, in(x, "reels", 0), "gone", 1);
            spoils(x, in(x, "reels", 0), "gone", 0);
        });
    }

    private static void leftOnes() {
        sentence("each board that left has no fault", () -> {
            Feederbank x = left();
            spoils(x, in(x, "sorts", 0), "high", 249);
            spoils(x, in(x, "sorts", 0), "low", 251);
            spoils(x, in(x, "boards", 0), "volumes", 0, 104);
        });
        sentence("only those that left", () -> {
            Feederbank x = bench();
            is("one at the bench has a fault", x.fault(0, 0), 'b');
            is("sound", x.isSound(), true);
        });
        sentence("each of its parts is of the needed sort, or an alternate, by what reels are", () -> {
            Feederbank x = left();
            x.sort(1, 1, 2, 100, 300, 0);
            spoils(x, in(x, "reels", 0), "real", 1);
            x.alternate(0, 0, 1, 0);
            set(in(x, "reels", 0), "real", 1);
            is("an alternate", x.isSound(), true);
        });
        sentence("the last of several that left", () -> {
            Feederbank x = line();
            x.order(0, 3, 0);
            x.tick(40);
            for (int i = 0; i < 3; i++) {
                x.test(i);
                x.leave(i);
            }
            spoils(x, in(x, "boards", 2), "volumes", 0, 104);
        });
    }

    private static void stations() {
        sentence("a board is at one station at most", () -> {
            for (int first = 0; first < 6; first++) {
                for (int second = first + 1; second < 6; second++) {
                    Feederbank x = line();
                    x.order(0, 2, 0);
                    set(in(x, "stations", first), "board", 1);
                    set(in(x, "stations", 0), "waiting", 1);
                    spoils(x, in(x, "stations", second), "board", 1);
                }
            }
        });
        sentence("or ahead of one", () -> {
            Feederbank x = line();
            x.order(0, 2, 0);
            for (int i = 0; i < 6; i++) {
                spoils(x, in(x, "stations", i), "board", 0);
                spoils(x, in(x, "stations", i), "board", 1);
                if (i > 0) {
                    put(in(x, "stations", i), "row", 0, 1);
                    spoils(x, in(x, "stations", i), "waiting", 1);
                }
            }
            spoils(x, in(x, "stations", 0), "row", 1, 0);
        });
        sentence("a board may be nowhere", () -> {
            Feederbank x = line();
            x.order(0, 1, 0);
            set(in(x, "stations", 0), "waiting", 0);
            is("sound", x.isSound(), true);
        });
    }

    private static void heats() {
        sentence("heats are what the zones make of them anew, of both sides", () -> {
            Feederbank x = line();
            x.place(0, 0, 0, 1, 0);
            x.order(0, 2, 0);
            x.tick(60);
            for (int board = 0; board < 2; board++) {
                for (int side = 0; side < 2; side++) {
                    Object heating = in(in(x, "boards", board), "heatings", side);
                    spoils(x, heating, "peak", 249.99998f);
                    spoils(x, heating, "peak", 250.00002f);
                    spoils(x, heating, "zones", 2, 251);
                }
            }
        });
        sentence("a side that was not in the oven has no heat", () -> {
            Feederbank x = line();
            x.order(0, 1, 0);
            set(in(in(x, "boards", 0), "heatings", 0), "peak", 99f);
            is("sound", x.isSound(), true);
        });
    }

    public static void main(String[] args) {
        parts();
        leftOnes();
        stations();
        heats();
        System.exit(end("SoundTests"));
    }
}
