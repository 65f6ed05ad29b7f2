import java.lang.reflect.InvocationTargetException;
import java.lang.reflect.Method;
import java.lang.reflect.Modifier;
import java.util.ArrayList;
import java.util.Arrays;
import java.util.List;
import java.util.Map;
import java.util.Random;
import java.util.TreeMap;

/**
 * Runs of calls at random, always the same ones, of the class and of a second reading of the document (Model):
 * each call must have the same answer or exception, and the line must look the same from outside.
 * With two numbers given, the runs from the first one to ahead of the second one are made instead.
 */
public final class ModelTests {
    private static final int RUNS = 120;
    private static final int CALLS = 420;
    private static final char[] LETTERS = {'r', 'v', 'd', 'h', 'c'};
    private static final String[] OFTEN = {"tick", "tick", "tick", "tick", "mend", "mend", "judge", "test", "test",
        "leave", "order", "reel", "load", "splice"};
    private static final String[] ALL = {"sort", "product", "place", "change", "alternate", "needed", "reel", "bake",
        "machine", "load", "splice", "zone", "speed", "limit", "wipe", "learn", "approve", "order", "seed", "tick", "at",
        "mend", "judge", "cover", "test", "causes", "leave", "setAside", "recall", "recalled", "shortage", "late"};
    /** What stops a line too soon, as it comes often. */
    private static final List<String> TROUBLE = List.of("zone", "speed", "limit", "setAside", "load");
    /** What some run must have had at least once; without it, the draws are no good. */
    private static final String[] DUE = {"mend r", "mend b", "mend w", "judge true", "judge false", "test f", "test g",
        "test u", "causes", "leave", "splice", "bake", "setAside", "recalled", "change", "alternate", "approve"};

    private static final Map<String, Method> OF_CLASS = methods(Feederbank.class);
    private static final Map<String, Method> OF_MODEL = methods(Model.class);
    private static final Map<String, Integer> SEEN = new TreeMap<>();

    private final Random random;
    private final Feederbank line = new Feederbank();
    private final Model model = new Model();
    private final List<String> calls = new ArrayList<>();
    private boolean isAlike = true;
    private boolean isTroubled;
    private int sorts;
    private int products;
    private int machines;

    private ModelTests(long seed) {
        random = new Random(seed);
    }

    private static Map<String, Method> methods(Class<?> type) {
        Map<String, Method> methods = new TreeMap<>();
        for (Method m : type.getDeclaredMethods()) {
            if (Modifier.isPublic(m.getModifiers())) {
                methods.put(m.getName(), m);
            }
        }
        return methods;
    }

    // ---- calls of both

    private static Object answer(Method m, Object on, Object... arguments) {
        try {
            return m.invoke(on, arguments);
        } catch (InvocationTargetException e) {
            return "throws." + e.getCause().getClass().getSimpleName();
        } catch (IllegalAccessException e) {
            return "can't be called";
        }
    }

    private Object ask(String name, Object... arguments) {
        return answer(OF_CLASS.get(name), line, arguments);
    }

    private void call(String name, Object... arguments) {
        Object got = ask(name, arguments);
        Object due = answer(OF_MODEL.get(name), model, arguments);
        String list = Arrays.toString(arguments);
        calls.add(name + "(" + list.substring(1, list.length() - 1) + ") = " + got);
        SEEN.merge(got instanceof Integer ? name : name + " " + got, 1, Integer::sum);
        if (!got.equals(due)) {
            calls.add("due by the model is " + due);
            isAlike = false;
        }
    }

    private static void look(StringBuilder s, Map<String, Method> methods, Object on, String name, Object... arguments) {
        s.append(name).append(Arrays.toString(arguments)).append(" = ").append(answer(methods.get(name), on, arguments)).append('\n');
    }

    /** All that can be asked without changing anything. */
    private static String looks(Map<String, Method> methods, Object on) {
        StringBuilder s = new StringBuilder();
        for (String name : List.of("now", "lost", "washes", "falseCalls", "checksum", "isSound", "leftShare", "meanHeat")) {
            look(s, methods, on, name);
        }
        for (int i = 0; i < 20; i++) {
            for (String name : List.of("parts", "lifeLeft", "isFit", "suspicions", "late", "wear")) {
                look(s, methods, on, name, i);
            }
        }
        for (int i = 0; i < 7; i++) {
            look(s, methods, on, "waiting", i);
            look(s, methods, on, "idle", i, true);
            look(s, methods, on, "idle", i, false);
            for (int j = 0; j < 6; j++) {
                look(s, methods, on, "loaded", i, j);
            }
        }
        for (int i = 0; i < 40 && answer(methods.get("stateOf"), on, i) instanceof Character; i++) {
            lookAtBoard(s, methods, on, i);
        }
        return s.toString();
    }

    private static void lookAtBoard(StringBuilder s, Map<String, Method> methods, Object on, int board) {
        for (String name : List.of("stateOf", "stationOf", "isHeld", "causes")) {
            look(s, methods, on, name, board);
        }
        look(s, methods, on, "heatBits", board, 0);
        look(s, methods, on, "heatBits", board, 1);
        for (int i = 0; i < 12 && answer(methods.get("at"), on, board, i, 'r') instanceof Integer; i++) {
            look(s, methods, on, "fault", board, i);
            for (char letter : LETTERS) {
                look(s, methods, on, "at", board, i, letter);
            }
        }
    }

    private void compareLooks() {
        String[] got = looks(OF_CLASS, line).split("\n");
        String[] due = looks(OF_MODEL, model).split("\n");
        for (int i = 0; i < Math.max(got.length, due.length) && isAlike; i++) {
            String one = i < got.length ? got[i] : "nothing";
            String other = i < due.length ? due[i] : "nothing";
            if (!one.equals(other)) {
                calls.add("then " + one + ", due by the model is " + other);
                isAlike = false;
            }
        }
    }

    // ---- what is drawn

    private int below(int bound) {
        return random.nextInt(bound);
    }

    private int upTo(int low, int high) {
        if (below(60) == 0) {
            int[] odd = {low - 1, high + 1, Integer.MIN_VALUE, Integer.MAX_VALUE, -1, 0};
            return odd[below(odd.length)];
        }
        return low + below(Math.max(1, high - low + 1));
    }

    private int numberOf(String name) {
        int count = 0;
        while (count < 40 && !(ask(name, count) instanceof String)) {
            count++;
        }
        return upTo(0, count - 1);
    }

    /** A reel for which a question is answered so, if some draws find one. */
    private int reelThat(boolean isSo, String question) {
        int reel = numberOf("parts");
        for (int i = 0; i < 8 && isSo != (question.equals("loaded") ? isInSlot(reel) : ask(question, reel).equals(true)); i++) {
            reel = numberOf("parts");
        }
        return reel;
    }

    private boolean isInSlot(int reel) {
        for (int i = 0; i < 18; i++) {
            if (ask("loaded", i / 6, i % 6).equals(reel)) {
                return true;
            }
        }
        return false;
    }

    private int boardIn(char state) {
        int board = numberOf("stateOf");
        for (int i = 0; i < 12 && !ask("stateOf", board).equals(state); i++) {
            board = numberOf("stateOf");
        }
        return board;
    }

    private int placeOf(int board) {
        int place = below(12);
        for (int i = 0; i < 40 && !ask("at", board, place, 'c').equals(1); i++) {
            place = below(12);
        }
        return place;
    }

    private int anySort() {
        return upTo(0, sorts - 1);
    }

    private int anyProduct() {
        return upTo(0, products - 1);
    }

    private Object[] arguments(String name) {
        int board = boardIn(name.equals("mend") || name.equals("judge") ? 'b' : 'r');
        switch (name) {
            case "sort": return new Object[] {upTo(1, 3), upTo(1, 9), upTo(1, 20), upTo(100, 200), upTo(200, 300), upTo(10, 999)};
            case "place": return new Object[] {anyProduct(), upTo(0, 19), upTo(0, 19), upTo(0, 1), anySort()};
            case "change": return new Object[] {anyProduct(), upTo(0, 5), anySort(), upTo(0, 25)};
            case "alternate": return new Object[] {anyProduct(), anySort(), anySort(), upTo(0, 25)};
            case "needed": return new Object[] {anyProduct(), upTo(0, 6), upTo(0, 99)};
            case "reel": return new Object[] {anySort(), anySort(), upTo(0, 4), upTo(1, 12)};
            case "bake": return new Object[] {reelThat(false, "loaded")};
            case "machine": return new Object[] {upTo(1, 7)};
            case "load": return new Object[] {upTo(0, machines - 1), upTo(0, 5), reelThat(false, "loaded")};
            case "splice": return new Object[] {reelThat(true, "loaded"), reelThat(false, "loaded")};
            case "zone": return new Object[] {upTo(0, 2), upTo(20, 400)};
            case "speed": return new Object[] {upTo(1, 9)};
            case "limit": return new Object[] {random.nextBoolean(), below(2) == 0 ? 60 + below(40) : upTo(0, 100)};
            case "wipe": return new Object[] {anyProduct()};
            case "learn": case "approve": return new Object[] {anySort()};
            case "order": return new Object[] {anyProduct(), upTo(1, 9), upTo(0, 300)};
            case "seed": return new Object[] {below(4) == 0 ? upTo(1, 2147483646) : 40 * (1 + below(1000))};
            case "tick": return new Object[] {below(3) == 0 ? upTo(1, 60) : upTo(1, 6)};
            case "at": return new Object[] {board, upTo(0, 12), (char) (97 + below(26))};
            case "mend": return new Object[] {board, placeOf(board), reelThat(true, "isFit")};
            case "judge": return new Object[] {board, placeOf(board)};
            case "cover": return new Object[] {anyProduct(), upTo(0, 4095)};
            case "test": case "causes": case "leave": return new Object[] {board};
            case "setAside": return new Object[] {numberOf("parts")};
            case "recall": return new Object[] {numberOf("parts"), random.nextBoolean()};
            case "recalled": return new Object[] {numberOf("parts"), random.nextBoolean(), upTo(0, 2)};
            case "shortage": return new Object[] {anyProduct(), upTo(1, 40), anySort()};
            case "late": return new Object[] {numberOf("late")};
            default: return new Object[0];
        }
    }

    // ---- runs

    private void setUp() {
        sorts = 2 + below(5);
        products = 1 + below(3);
        machines = 1 + below(3);
        isTroubled = below(3) == 0;
        boolean isEasy = below(3) > 0;
        int sizes = 1 + below(3);
        if (below(8) == 0) {
            call("tick", 1 + below(60));
        }
        for (int i = 0; i < sorts; i++) {
            int low = 100 + below(isEasy ? 60 : 201);
            int high = isEasy ? 255 + below(46) : low + below(301 - low);
            call("sort", 1 + below(sizes), 1 + below(4), 1 + below(20), low, high, below(2) * (10 + below(200)));
        }
        for (int i = 0; i < products; i++) {
            call("product");
            int places = 1 + below(below(3) == 0 ? 12 : 4);
            for (int j = 0; j < places; j++) {
                call("place", i, below(20), below(20), below(2), below(sorts));
            }
        }
        for (int i = 0; i < machines; i++) {
            call("machine", below(3) == 0 ? 1 + below(7) : 7);
        }
        setUpReels();
    }

    private void setUpReels() {
        int reels = 4 + below(10);
        boolean isHonest = below(2) == 0;
        for (int i = 0; i < reels; i++) {
            int sort = i < sorts ? i : below(sorts);
            call("reel", sort, isHonest || below(3) > 0 ? sort : below(sorts), below(4), 1 + below(below(2) == 0 ? 10 : 120));
            call("load", i % machines, i / machines % 6, i);
        }
    }

    private void run() {
        setUp();
        for (int i = 0; i < CALLS && isAlike && calls.size() < 512; i++) {
            String name = below(5) < 3 ? OFTEN[below(OFTEN.length)] : ALL[below(ALL.length)];
            boolean isTooSoon = TROUBLE.contains(name) && below(isTroubled ? 2 : 8) > 0;
            if (!isTooSoon) {
                call(name, arguments(name));
            }
            if (isAlike && i % 10 == 0) {
                compareLooks();
            }
        }
        if (isAlike) {
            compareLooks();
        }
    }

    private static int missing() {
        int missing = 0;
        for (String due : DUE) {
            if (!SEEN.containsKey(due)) {
                missing++;
                System.out.println("no run has had: " + due);
            }
        }
        return missing;
    }

    public static void main(String[] args) {
        long from = args.length == 2 ? Long.parseLong(args[0]) : 0;
        long to = args.length == 2 ? Long.parseLong(args[1]) : RUNS;
        int wrong = 0;
        if (!OF_CLASS.keySet().equals(OF_MODEL.keySet())) {
            wrong++;
            System.out.println("the model has another face than the class");
        }
        for (long seed = from; seed < to && wrong < 3; seed++) {
            ModelTests test = new ModelTests(seed);
            test.run();
            if (!test.isAlike) {
                wrong++;
                System.out.println("run " + seed + ":");
                test.calls.forEach(System.out::println);
            }
        }
        if (wrong == 0) {
            wrong = missing();
        }
        System.out.println(wrong == 0 ? to - from + " runs answer as the model does" : "the class and the model differ");
        if (wrong != 0) {
            System.exit(1);
        }
    }
}
