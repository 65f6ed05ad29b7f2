import java.lang.reflect.InvocationTargetException;
import java.lang.reflect.Method;
import java.util.ArrayList;
import java.util.Comparator;
import java.util.HashMap;
import java.util.List;
import java.util.Map;
import java.util.Random;

/**
 * Runs of calls at random, always the same ones: each exception must be one that the face names for the
 * method, a call that throws must change nothing, and the line must be sound behind each call.
 */
public final class FuzzTests {
    private static final int RUNS = 150;
    private static final int CALLS = 512;
    private static final char[] LETTERS = {'r', 'v', 'd', 'h', 'c', 'q'};

    private static int wrong = 0;
    private final Random random;
    private final Feederbank x = new Feederbank();
    private final List<Method> methods = new ArrayList<>();
    private final Map<String, Integer> refusals;

    private FuzzTests(long seed, Map<String, Integer> refusals) {
        random = new Random(seed);
        this.refusals = refusals;
        for (Method m : Feederbank.class.getDeclaredMethods()) {
            if (java.lang.reflect.Modifier.isPublic(m.getModifiers())) {
                methods.add(m);
            }
        }
        methods.sort(Comparator.comparing(Method::getName));
    }

    private int below(int bound) {
        return random.nextInt(bound);
    }

    private int upTo(int low, int high) {
        if (below(40) == 0) {
            int[] odd = {low - 1, high + 1, Integer.MIN_VALUE, Integer.MAX_VALUE, -1, 0};
            return odd[below(odd.length)];
        }
        return low + below(high - low + 1);
    }

    /** An argument that is mostly in its range, by the method and the place of the argument. */
    private Object argument(Method m, int index) {
        Class<?> type = m.getParameterTypes()[index];
        if (type == boolean.class) {
            return random.nextBoolean();
        }
        if (type == char.class) {
            return LETTERS[below(LETTERS.length)];
        }
        switch (m.getName() + index) {
            case "sort0": return upTo(1, 2);
            case "sort1": return upTo(1, 3);
            case "sort2": return upTo(1, 20);
            case "sort3": return upTo(100, 240);
            case "sort4": return upTo(240, 300);
            case "sort5": return below(3) > 0 ? 0 : upTo(10, 400);
            case "place0": case "change0": case "alternate0": case "needed0": case "wipe0": case "wear0":
            case "order0": case "cover0": case "shortage0": return upTo(0, 1);
            case "place1": case "place2": return upTo(0, 19);
            case "place3": return upTo(0, 1);
            case "place4": case "change2": case "alternate1": case "alternate2": case "reel0": case "reel1":
            case "learn0": case "approve0": case "shortage2": return upTo(0, 3);
            case "change1": case "needed1": case "at1": case "fault1": case "mend1": case "judge1": return upTo(0, 3);
            case "change3": case "alternate3": return upTo(0, 12);
            case "needed2": return upTo(0, 99);
            case "reel2": return upTo(0, 3);
            case "reel3": return upTo(1, 30);
            case "machine0": return upTo(1, 7);
            case "load0": case "loaded0": return upTo(0, 1);
            case "load1": case "loaded1": return upTo(0, 5);
            case "zone0": return upTo(0, 2);
            case "zone1": return upTo(150, 280);
            case "speed0": return upTo(1, 9);
            case "limit1": return upTo(0, 100);
            case "order1": return upTo(1, 5);
            case "order2": return upTo(0, 300);
            case "seed0": return upTo(1, 2147483646 - 1);
            case "tick0": return upTo(1, 25);
            case "waiting0": case "idle0": return upTo(0, 4);
            case "heatBits1": return upTo(0, 1);
            case "cover1": return upTo(0, 15);
            case "shortage1": return upTo(1, 40);
            case "late0": return upTo(0, 4);
            case "recall0": case "recalled0": return upTo(0, 5);
            case "recalled2": return upTo(0, 3);
            case "parts0": case "lifeLeft0": case "bake0": case "isFit0": case "splice0": case "splice1":
            case "load2": case "mend2": case "setAside0": case "suspicions0": return upTo(0, 9);
            default: return upTo(0, 12);
        }
    }

    private Method method() {
        int dice = below(10);
        String[] often = {"tick", "mend", "judge", "test", "leave", "order", "reel", "load", "splice", "tick"};
        String name = dice < 6 ? often[below(often.length)] : "";
        for (Method m : methods) {
            if (m.getName().equals(name)) {
                return m;
            }
        }
        Method drawn = methods.get(below(methods.size()));
        boolean isRare = drawn.getName().equals("setAside") || drawn.getName().equals("limit");
        return isRare && below(4) > 0 ? methods.get(below(methods.size())) : drawn;
    }

    private void call(Method m, Object[] arguments) {
        String before = fingerprint(x);
        String what = m.getName() + java.util.Arrays.toString(arguments);
        try {
            m.invoke(x, arguments);
        } catch (InvocationTargetException e) {
            Class<?> thrown = e.getCause().getClass();
            boolean isNamed = false;
            for (Class<?> named : m.getExceptionTypes()) {
                isNamed |= named == thrown;
            }
            refusals.merge(m.getName() + " " + thrown.getSimpleName(), 1, Integer::sum);
            if (!isNamed) {
                fail(what + " threw " + e.getCause());
            }
            if (!fingerprint(x).equals(before)) {
                fail(what + " threw and changed something");
            }
        } catch (IllegalAccessException e) {
            fail(what + " can't be called");
        }
        if (!x.isSound()) {
            fail(what + " left it unsound");
        }
    }

    private static void fail(String what) {
        wrong++;
        if (wrong < 20) {
            System.out.println(what);
        }
    }

    private void run() {
        for (int i = 0; i < 4; i++) {
            x.sort(1 + below(2), 1 + below(3), 1 + below(20), 100 + below(130), 230 + below(71), below(2) * (60 + below(200)));
        }
        for (int i = 0; i < 2; i++) {
            x.product();
            for (int j = 0; j < 4; j++) {
                x.place(i, j * 5, below(20), below(2), below(4));
            }
            x.machine(7);
        }
        for (int i = 0; i < 8; i++) {
            x.reel(i % 4, below(4) > 0 ? i % 4 : below(4), below(4), 1 + below(40));
            x.load(i / 4, i % 4, i);
        }
        for (int i = 24; i < CALLS; i++) {
            Method m = method();
            Object[] arguments = new Object[m.getParameterCount()];
            for (int j = 0; j < arguments.length; j++) {
                arguments[j] = argument(m, j);
            }
            call(m, arguments);
        }
    }

    private static int count(java.util.function.IntConsumer ask) {
        for (int i = 0; i < 100; i++) {
            try {
                ask.accept(i);
            } catch (IndexOutOfBoundsException e) {
                return i;
            }
        }
        return 100;
    }

    private static String fingerprint(Feederbank x) {
        StringBuilder s = new StringBuilder();
        s.append(x.now()).append(' ').append(x.lost()).append(' ').append(x.washes()).append(' ').append(x.falseCalls());
        s.append(' ').append(x.checksum());
        int reels = count(x::parts);
        for (int i = 0; i < reels; i++) {
            s.append(' ').append(x.parts(i)).append(' ').append(x.lifeLeft(i)).append(x.isFit(i)).append(x.suspicions(i));
        }
        int stations = count(x::waiting);
        for (int i = 0; i < stations; i++) {
            s.append(' ').append(x.waiting(i)).append(' ').append(x.idle(i, true)).append(' ').append(x.idle(i, false));
        }
        for (int i = 0; i < stations - 3; i++) {
            for (int j = 0; j < 6; j++) {
                s.append(' ').append(x.loaded(i, j));
            }
        }
        int boards = count(x::stateOf);
        for (int i = 0; i < boards; i++) {
            s.append(' ').append(x.stateOf(i)).append(x.isHeld(i));
            int board = i;
            int places = count(j -> x.at(board, j, 'r'));
            for (int j = 0; j < places; j++) {
                for (int k = 0; k < 5; k++) {
                    s.append(' ').append(x.at(i, j, LETTERS[k]));
                }
            }
        }
        int orders = count(x::late);
        for (int i = 0; i < orders; i++) {
            s.append(' ').append(x.late(i));
        }
        int products = count(x::wear);
        for (int i = 0; i < products; i++) {
            s.append(' ').append(x.wear(i));
            int product = i;
            int places = count(j -> x.needed(product, j, 0));
            for (int j = 0; j < places; j++) {
                s.append(' ').append(x.needed(i, j, 0)).append(' ').append(x.needed(i, j, 9)).append(' ').append(x.needed(i, j, 99));
            }
        }
        return s.toString();
    }

    public static void main(String[] args) {
        Map<String, Integer> refusals = new HashMap<>();
        for (int i = 0; i < RUNS; i++) {
            new FuzzTests(i, refusals).run();
        }
        for (Method m : Feederbank.class.getDeclaredMethods()) {
            for (Class<?> named : m.getExceptionTypes()) {
                if (java.lang.reflect.Modifier.isPublic(m.getModifiers()) && !isRare(m, named)
                        && !refusals.containsKey(m.getName() + " " + named.getSimpleName())) {
                    fail(m.getName() + " never threw " + named.getSimpleName());
                }
            }
        }
        System.out.println(wrong == 0 ? RUNS + " runs at random are sound" : wrong + " calls are wrong");
        if (wrong != 0) {
            System.exit(1);
        }
    }

    /** Some refusals need more than a run at random has. */
    private static boolean isRare(Method m, Class<?> named) {
        boolean isOfLists = List.of("place", "change", "alternate").contains(m.getName());
        return named == ArithmeticException.class || isOfLists && named == IllegalStateException.class;
    }
}
