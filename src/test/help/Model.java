import java.util.ArrayDeque;
import java.util.ArrayList;
import java.util.Collections;
import java.util.Comparator;
import java.util.Deque;
import java.util.List;
import java.util.NoSuchElementException;
import java.util.TreeSet;

/**
 * A second reading of the document, with lists where the class has rows, to be compared with the class call by
 * call. Where the two differ, the document tells which one is wrong.
 */
public final class Model {
    private record Sort(int size, int height, int mass, int low, int high, int life) {
    }

    private record Spot(int x, int y, int side, int sort) {
    }

    private record Change(int product, int place, int sort, int from) {
    }

    private record Alternate(int product, int sort, int other, int from) {
    }

    private record Order(List<Board> boards, int due) {
    }

    private static final class Product {
        final List<Spot> spots = new ArrayList<>();
        final TreeSet<Integer> begun = new TreeSet<>();
        int wear;
        int freshSince;
        int covered;
        int serials;
    }

    private static final class Reel {
        int says;
        int real;
        int lot;
        int told;
        int parts;
        Integer runsFrom;
        boolean isBaked;
        boolean isAside;
        int suspicions;
        int mendedAway;
        int lost;
    }

    private static final class Machine {
        int nozzles;
        final Reel[] slots = new Reel[6];
        final Reel[] behind = new Reel[6];
    }

    private static final class Cell {
        Reel reel;
        int volume = -1;
        int dealt = -1;
        int heats;
        boolean isCalled;
        boolean isMended;
    }

    private static final class Board {
        int number;
        int product;
        int serial;
        int side;
        final List<Cell> cells = new ArrayList<>();
        final Float[] greatest = new Float[2];
        char state = 'w';
        char tested = ' ';
        int causes;
        int leftIn;
    }

    private static final class Station {
        /** 'p' the printer, 'm' a machine, 'o' the oven, 'e' the eye. */
        final char kind;
        final Machine machine;
        final Deque<Board> row = new ArrayDeque<>();
        Board board;
        int needs;
        int blocked;
        int starved;

        Station(char kind, Machine machine) {
            this.kind = kind;
            this.machine = machine;
        }
    }

    private final List<Sort> sorts = new ArrayList<>();
    private final List<Product> products = new ArrayList<>();
    private final List<Change> changes = new ArrayList<>();
    private final List<Alternate> alternates = new ArrayList<>();
    private final List<Reel> reels = new ArrayList<>();
    private final List<Machine> machines = new ArrayList<>();
    private final List<Order> orders = new ArrayList<>();
    private final List<Board> boards = new ArrayList<>();
    private final List<Station> stations = new ArrayList<>();
    private final TreeSet<Integer> asked = new TreeSet<>();
    private final TreeSet<Integer> learned = new TreeSet<>();
    private final int[] zones = {150, 200, 250};
    private int speed = 3;
    private int pasteLimit = 60;
    private int eyeLimit = 75;
    private long z = 1;
    private int now;
    private int falseCalls;
    private int lost;
    private int washes;

    public Model() {
        stations.add(new Station('p', null));
        stations.add(new Station('o', null));
        stations.add(new Station('e', null));
    }

    // ---- what is refused

    private static void index(int i, List<?> list) {
        if (i < 0 || i >= list.size()) {
            throw new IndexOutOfBoundsException();
        }
    }

    private static void range(int value, int low, int high) {
        if (value < low || value > high) {
            throw new IllegalArgumentException();
        }
    }

    private static void unsupportedIf(boolean is) {
        if (is) {
            throw new UnsupportedOperationException();
        }
    }

    private static void fullIf(boolean is) {
        if (is) {
            throw new IllegalStateException();
        }
    }

    private static void noneIf(boolean is) {
        if (is) {
            throw new NoSuchElementException();
        }
    }

    private Product theProduct(int product) {
        index(product, products);
        return products.get(product);
    }

    private Reel theReel(int reel) {
        index(reel, reels);
        return reels.get(reel);
    }

    private Board theBoard(int board) {
        index(board, boards);
        return boards.get(board);
    }

    private Cell theCell(int board, int place) {
        index(place, theBoard(board).cells);
        return boards.get(board).cells.get(place);
    }

    private Machine theSlot(int machine, int slot) {
        index(machine, machines);
        if (slot < 0 || slot > 5) {
            throw new IndexOutOfBoundsException();
        }
        return machines.get(machine);
    }

    // ---- sorts and products

    public int sort(int size, int height, int mass, int low, int high, int life) {
        range(size, 1, 3);
        range(height, 1, 9);
        range(mass, 1, 20);
        range(low, 100, 300);
        range(high, 100, 300);
        range(high, low, 300);
        range(life, 0, 999);
        range(life == 0 ? 10 : life, 10, 999);
        fullIf(sorts.size() == 10);
        sorts.add(new Sort(size, height, mass, low, high, life));
        return sorts.size() - 1;
    }

    public int product() {
        fullIf(products.size() == 3);
        Product made = new Product();
        made.freshSince = now;
        products.add(made);
        return products.size() - 1;
    }

    public int place(int product, int x, int y, int side, int sort) {
        index(product, products);
        index(sort, sorts);
        range(x, 0, 19);
        range(y, 0, 19);
        range(side, 0, 1);
        Product changed = products.get(product);
        for (Spot other : changed.spots) {
            unsupportedIf(other.x == x && other.y == y && other.side == side);
        }
        unsupportedIf(changed.serials > 0);
        fullIf(changed.spots.size() == 12);
        changed.spots.add(new Spot(x, y, side, sort));
        return changed.spots.size() - 1;
    }

    public int change(int product, int place, int sort, int from) {
        index(place, theProduct(product).spots);
        index(sort, sorts);
        range(from, 0, 99);
        unsupportedIf(products.get(product).begun.ceiling(from) != null);
        fullIf(changes.size() == 8);
        int before = neededSort(product, place, from);
        changes.add(new Change(product, place, sort, from));
        return before;
    }

    public int alternate(int product, int sort, int other, int from) {
        index(product, products);
        index(sort, sorts);
        index(other, sorts);
        range(from, 0, 99);
        unsupportedIf(sort == other || sorts.get(sort).size != sorts.get(other).size);
        fullIf(alternates.size() == 8);
        alternates.add(new Alternate(product, sort, other, from));
        return alternates.size();
    }

    public int needed(int product, int place, int serial) {
        index(place, theProduct(product).spots);
        range(serial, 0, 99);
        return neededSort(product, place, serial);
    }

    private int neededSort(int product, int place, int serial) {
        int sort = products.get(product).spots.get(place).sort;
        for (int from = 0; from <= serial; from++) {
            for (Change told : changes) {
                if (told.product == product && told.place == place && told.from == from) {
                    sort = told.sort;
                }
            }
        }
        return sort;
    }

    private int neededSort(Board board, int place) {
        return neededSort(board.product, place, board.serial);
    }

    /** The needed sort, and its alternates in the order in which they were told. */
    private List<Integer> rightSorts(Board board, int place) {
        List<Integer> right = new ArrayList<>();
        right.add(neededSort(board, place));
        for (Alternate told : alternates) {
            if (told.product == board.product && told.sort == right.get(0) && told.from <= board.serial) {
                right.add(told.other);
            }
        }
        return right;
    }

    // ---- reels and machines

    public int reel(int sort, int real, int lot, int parts) {
        index(sort, sorts);
        index(real, sorts);
        range(lot, 0, 99);
        range(parts, 1, 200);
        fullIf(reels.size() == 20);
        Reel made = new Reel();
        made.says = sort;
        made.real = real;
        made.lot = lot;
        made.told = parts;
        made.parts = parts;
        reels.add(made);
        return reels.size() - 1;
    }

    public int parts(int reel) {
        return theReel(reel).parts;
    }

    public int lifeLeft(int reel) {
        return left(theReel(reel));
    }

    private int left(Reel reel) {
        int life = sorts.get(reel.says).life;
        if (life == 0 || reel.runsFrom == null) {
            return 1000;
        }
        int end = reel.runsFrom + life;
        return now < end ? end - now : 0;
    }

    public int bake(int reel) {
        Reel baked = theReel(reel);
        unsupportedIf(isInUse(baked) || baked.isBaked);
        int before = left(baked);
        baked.isBaked = true;
        baked.runsFrom = null;
        return before;
    }

    public boolean isFit(int reel) {
        return fit(theReel(reel));
    }

    private boolean fit(Reel reel) {
        return reel.parts > 0 && left(reel) > 0 && !reel.isAside;
    }

    private boolean isInUse(Reel reel) {
        for (Machine machine : machines) {
            for (int i = 0; i < 6; i++) {
                if (machine.slots[i] == reel || machine.behind[i] == reel) {
                    return true;
                }
            }
        }
        return false;
    }

    public int machine(int nozzles) {
        range(nozzles, 1, 7);
        fullIf(machines.size() == 3 || !orders.isEmpty());
        Machine made = new Machine();
        made.nozzles = nozzles;
        machines.add(made);
        stations.add(machines.size(), new Station('m', made));
        return machines.size() - 1;
    }

    public int load(int machine, int slot, int reel) {
        Machine changed = theSlot(machine, slot);
        Reel put = theReel(reel);
        unsupportedIf(isInUse(put));
        int before = changed.slots[slot] == null ? -1 : reels.indexOf(changed.slots[slot]);
        changed.behind[slot] = null;
        putInSlot(changed, slot, put);
        return before;
    }

    private void putInSlot(Machine machine, int slot, Reel reel) {
        machine.slots[slot] = reel;
        if (reel.runsFrom == null) {
            reel.runsFrom = now;
        }
    }

    public int splice(int reel, int other) {
        Reel front = theReel(reel);
        Reel rear = theReel(other);
        for (Machine machine : machines) {
            for (int i = 0; i < 6; i++) {
                if (machine.slots[i] == front) {
                    unsupportedIf(machine.behind[i] != null || isInUse(rear) || front.says != rear.says);
                    machine.behind[i] = rear;
                    moveUp();
                    return front.parts + rear.parts;
                }
            }
        }
        throw new UnsupportedOperationException();
    }

    private void moveUp() {
        for (Machine machine : machines) {
            for (int i = 0; i < 6; i++) {
                Reel next = machine.behind[i];
                if (next != null && machine.slots[i].parts == 0) {
                    machine.behind[i] = null;
                    putInSlot(machine, i, next);
                }
            }
        }
    }

    private void take(Reel reel) {
        reel.parts--;
        moveUp();
    }

    public int loaded(int machine, int slot) {
        return reels.indexOf(theSlot(machine, slot).slots[slot]);
    }

    /** The reel from which a machine takes for a place, or null. */
    private Reel source(Machine machine, Board board, int place) {
        int size = sorts.get(neededSort(board, place)).size;
        int nozzle = size == 1 ? 1 : size == 2 ? 2 : 4;
        if ((machine.nozzles & nozzle) == 0) {
            return null;
        }
        for (int sort : rightSorts(board, place)) {
            for (Reel reel : machine.slots) {
                if (reel != null && reel.says == sort && fit(reel)) {
                    return reel;
                }
            }
        }
        return null;
    }

    // ---- settings

    private boolean isOvenEmpty() {
        return stations.get(stations.size() - 2).board == null;
    }

    public int zone(int zone, int heat) {
        range(zone, 0, 2);
        range(heat, 20, 400);
        unsupportedIf(!isOvenEmpty());
        int before = zones[zone];
        zones[zone] = heat;
        return before;
    }

    public int speed(int told) {
        range(told, 1, 9);
        unsupportedIf(!isOvenEmpty());
        int before = speed;
        speed = told;
        return before;
    }

    public int limit(boolean isEye, int hundredths) {
        range(hundredths, 0, 100);
        int before;
        if (isEye) {
            before = eyeLimit;
            eyeLimit = hundredths;
        } else {
            before = pasteLimit;
            pasteLimit = hundredths;
        }
        return before;
    }

    private int dryness(Product product) {
        return Math.min(5, (now - product.freshSince) / 10);
    }

    public int wipe(int product) {
        int before = dryness(theProduct(product));
        products.get(product).freshSince = now;
        return before;
    }

    public int wear(int product) {
        return theProduct(product).wear;
    }

    public boolean learn(int sort) {
        index(sort, sorts);
        return !asked.add(sort);
    }

    public int approve(int sort) {
        index(sort, sorts);
        unsupportedIf(!asked.contains(sort) || !learned.add(sort));
        return learned.size();
    }

    public int order(int product, int many, int due) {
        Product made = theProduct(product);
        range(many, 1, 9);
        range(due, 0, 99999);
        unsupportedIf(made.spots.isEmpty());
        fullIf(orders.size() == 10 || boards.size() + many > 40);
        Order told = new Order(new ArrayList<>(), due);
        orders.add(told);
        for (int i = 0; i < many; i++) {
            Board board = new Board();
            board.number = boards.size();
            board.product = product;
            board.serial = made.serials;
            board.side = hasSide(made, 0) ? 0 : 1;
            for (int j = 0; j < made.spots.size(); j++) {
                board.cells.add(new Cell());
            }
            made.serials++;
            boards.add(board);
            told.boards.add(board);
            putInRow(board);
        }
        return told.boards.get(0).number;
    }

    private static boolean hasSide(Product product, int side) {
        return product.spots.stream().anyMatch(spot -> spot.side == side);
    }

    private void putInRow(Board board) {
        board.state = 'w';
        stations.get(0).row.addLast(board);
    }

    public int seed(int told) {
        range(told, 1, 2147483646);
        int before = (int) z;
        z = told;
        return before;
    }

    // ---- the line

    public int tick(int ticks) {
        range(ticks, 1, 200);
        for (int i = 0; i < ticks; i++) {
            for (int j = stations.size() - 1; j >= 0; j--) {
                goOnFrom(j);
                if (stations.get(j).board == null) {
                    beginAt(stations.get(j));
                }
            }
            now++;
        }
        return inState('r') + inState('x');
    }

    private int inState(char state) {
        return (int) boards.stream().filter(board -> board.state == state).count();
    }

    private void goOnFrom(int index) {
        Station station = stations.get(index);
        if (station.needs > 0) {
            station.needs--;
        }
        if (station.board == null || station.needs > 0) {
            return;
        }
        Board board = station.board;
        if (station.kind == 'e') {
            station.board = null;
            board.state = 'b';
            goOnIfUncalled(board);
            return;
        }
        Deque<Board> belt = stations.get(index + 1).row;
        if (belt.size() == 2) {
            station.blocked++;
            return;
        }
        station.board = null;
        if (station.kind == 'p' && isToBeWashed(board)) {
            washes++;
            products.get(board.product).freshSince = now;
            putInRow(board);
        } else {
            belt.addLast(board);
        }
    }

    private void goOnIfUncalled(Board board) {
        if (board.cells.stream().anyMatch(cell -> cell.isCalled)) {
            return;
        }
        if (board.side == 0 && hasSide(products.get(board.product), 1)) {
            board.side = 1;
            putInRow(board);
            return;
        }
        board.tested = ' ';
        board.state = 'r';
        callHeld(board);
    }

    private void callHeld(Board board) {
        for (Cell cell : board.cells) {
            if (board.state != 'x' && cell.reel != null && cell.reel.isAside) {
                cell.isCalled = true;
                board.state = 'b';
            }
        }
    }

    private List<Integer> placesOfSide(Board board) {
        List<Integer> places = new ArrayList<>();
        List<Spot> spots = products.get(board.product).spots;
        for (int i = 0; i < spots.size(); i++) {
            if (spots.get(i).side == board.side) {
                places.add(i);
            }
        }
        return places;
    }

    private boolean canBegin(Station station) {
        Board first = station.row.peekFirst();
        if (first == null) {
            return false;
        }
        for (int place : placesOfSide(first)) {
            if (station.kind == 'p' && machines.stream().allMatch(machine -> source(machine, first, place) == null)) {
                return false;
            }
        }
        return true;
    }

    private void beginAt(Station station) {
        if (!canBegin(station)) {
            station.starved++;
            return;
        }
        Board board = station.row.removeFirst();
        station.board = board;
        board.state = 'l';
        switch (station.kind) {
            case 'p' -> {
                print(board);
                station.needs = 3;
            }
            case 'm' -> station.needs = put(board, station.machine);
            case 'o' -> {
                heat(board);
                station.needs = 12 / speed + 1;
            }
            default -> {
                look(board);
                station.needs = 2;
            }
        }
    }

    private void print(Board board) {
        Product product = products.get(board.product);
        int[] dealt = new int[machines.size()];
        for (int place : placesOfSide(board)) {
            int best = -1;
            for (int i = 0; i < dealt.length; i++) {
                if (source(machines.get(i), board, place) != null && (best < 0 || dealt[i] < dealt[best])) {
                    best = i;
                }
            }
            dealt[best]++;
            Cell cell = board.cells.get(place);
            cell.dealt = best;
            cell.volume = Math.max(0, fullVolume(board, place) - product.wear - 8 * dryness(product));
        }
        product.begun.add(board.serial);
        product.wear++;
        product.freshSince = now;
    }

    private int fullVolume(Board board, int place) {
        return 100 + 50 * sorts.get(neededSort(board, place)).size;
    }

    private boolean isBelow(Board board, int place, int hundredths) {
        return 100 * board.cells.get(place).volume < hundredths * fullVolume(board, place);
    }

    private boolean isToBeWashed(Board board) {
        return placesOfSide(board).stream().anyMatch(place -> isBelow(board, place, pasteLimit));
    }

    private int put(Board board, Machine machine) {
        List<Spot> spots = products.get(board.product).spots;
        List<Integer> rest = placesOfSide(board);
        rest.removeIf(place -> board.cells.get(place).dealt != machines.indexOf(machine));
        int needs = 1;
        Spot at = new Spot(0, 0, 0, 0);
        while (!rest.isEmpty()) {
            Spot last = at;
            Comparator<Integer> byHeight = Comparator.comparing(place -> sorts.get(neededSort(board, place)).height);
            Integer next = Collections.min(rest, byHeight.thenComparing(place -> way(last, spots.get(place)))
                .thenComparing(Comparator.naturalOrder()));
            rest.remove(next);
            at = spots.get(next);
            needs += 1 + way(last, at) / 8;
            putPart(board, next, machine);
        }
        return needs;
    }

    private static int way(Spot from, Spot to) {
        return Math.abs(from.x - to.x) + Math.abs(from.y - to.y);
    }

    private void putPart(Board board, int place, Machine machine) {
        for (int i = 0; i < 3; i++) {
            Reel reel = source(machine, board, place);
            if (reel == null) {
                return;
            }
            take(reel);
            z = z * 48271 % 2147483647;
            if (z % 40 != 0) {
                board.cells.get(place).reel = reel;
                return;
            }
            reel.lost++;
            lost++;
        }
    }

    private void heat(Board board) {
        int mass = 10;
        for (Cell cell : board.cells) {
            if (cell.reel != null) {
                mass += sorts.get(cell.reel.says).mass;
                cell.heats++;
            }
        }
        float share = 90.0f / (float) (mass + 10 * speed);
        float heat = 20.0f;
        float greatest = heat;
        for (int zone : zones) {
            heat = heat + ((float) zone - heat) * Math.min(share, 1.0f);
            greatest = Math.max(greatest, heat);
        }
        board.greatest[board.side] = greatest;
    }

    private Float heatOf(Board board, int place) {
        return board.greatest[products.get(board.product).spots.get(place).side];
    }

    private char faultOf(Board board, int place) {
        Cell cell = board.cells.get(place);
        Sort sort = sorts.get(neededSort(board, place));
        if (cell.reel == null) {
            return 'm';
        }
        if (!rightSorts(board, place).contains(cell.reel.real)) {
            return 'w';
        }
        if (cell.isMended) {
            return '-';
        }
        if (heatOf(board, place) > sort.high) {
            return 'b';
        }
        if (heatOf(board, place) < sort.low) {
            return 'c';
        }
        return isBelow(board, place, 70) ? 'p' : '-';
    }

    private void look(Board board) {
        for (int place : placesOfSide(board)) {
            Cell cell = board.cells.get(place);
            boolean isSeen = switch (faultOf(board, place)) {
                case 'm', 'b' -> true;
                case 'w' -> looksWrong(cell.reel, neededSort(board, place));
                case 'c' -> sorts.get(neededSort(board, place)).low - (double) heatOf(board, place) >= 10.0;
                default -> false;
            };
            if (isSeen && faultOf(board, place) == 'w') {
                cell.reel.suspicions++;
            }
            cell.isCalled = isSeen || isBelow(board, place, eyeLimit);
        }
    }

    private boolean looksWrong(Reel reel, int needed) {
        Sort real = sorts.get(reel.real);
        Sort sort = sorts.get(needed);
        return real.size != sort.size || real.height != sort.height || learned.contains(needed);
    }

    // ---- what is asked of the line and its boards

    public int now() {
        return now;
    }

    public char stateOf(int board) {
        return theBoard(board).state;
    }

    public int stationOf(int board) {
        Board wanted = theBoard(board);
        for (int i = 0; i < stations.size(); i++) {
            if (stations.get(i).board == wanted) {
                return i;
            }
            if (stations.get(i).row.contains(wanted)) {
                return -1 - i;
            }
        }
        throw new NoSuchElementException();
    }

    public int waiting(int station) {
        index(station, stations);
        return stations.get(station).row.size();
    }

    public int idle(int station, boolean isBlocked) {
        index(station, stations);
        return isBlocked ? stations.get(station).blocked : stations.get(station).starved;
    }

    public int at(int board, int place, char what) {
        Cell cell = theCell(board, place);
        return switch (what) {
            case 'r' -> reels.indexOf(cell.reel);
            case 'v' -> cell.volume;
            case 'd' -> cell.dealt;
            case 'h' -> cell.heats;
            case 'c' -> cell.isCalled ? 1 : 0;
            default -> throw new IllegalArgumentException();
        };
    }

    public int heatBits(int board, int side) {
        Board wanted = theBoard(board);
        if (side < 0 || side > 1) {
            throw new IndexOutOfBoundsException();
        }
        noneIf(wanted.greatest[side] == null);
        return Float.floatToIntBits(wanted.greatest[side]);
    }

    public char fault(int board, int place) {
        theCell(board, place);
        noneIf(heatOf(boards.get(board), place) == null);
        return faultOf(boards.get(board), place);
    }

    // ---- the bench and tests

    public char mend(int board, int place, int reel) {
        Cell cell = theCell(board, place);
        Reel from = theReel(reel);
        Board mended = boards.get(board);
        unsupportedIf(mended.state != 'b' || !cell.isCalled);
        unsupportedIf(!fit(from) || !rightSorts(mended, place).contains(from.says));
        if (cell.reel != null) {
            cell.reel.mendedAway++;
        }
        cell.heats = cell.reel == null ? 1 : cell.heats + 1;
        take(from);
        cell.reel = from;
        cell.isMended = true;
        cell.isCalled = false;
        if (cell.heats > 4) {
            mended.state = 's';
        } else {
            goOnIfUncalled(mended);
        }
        return mended.state;
    }

    public boolean judge(int board, int place) {
        Cell cell = theCell(board, place);
        Board judged = boards.get(board);
        unsupportedIf(judged.state != 'b' || !cell.isCalled);
        boolean isFalse = faultOf(judged, place) == '-';
        falseCalls += isFalse ? 1 : 0;
        cell.isCalled = false;
        goOnIfUncalled(judged);
        return isFalse;
    }

    public int falseCalls() {
        return falseCalls;
    }

    public int cover(int product, int places) {
        Product covered = theProduct(product);
        range(places, 0, 4095);
        int before = covered.covered;
        covered.covered = places;
        return before;
    }

    public char test(int board) {
        Board tested = theBoard(board);
        unsupportedIf(tested.state != 'r');
        boolean works = true;
        boolean isFound = false;
        int uncovered = 0;
        for (int i = 0; i < tested.cells.size(); i++) {
            boolean isFaulty = faultOf(tested, i) != '-';
            works &= !isFaulty;
            if ((products.get(tested.product).covered & 1 << i) == 0) {
                uncovered |= 1 << i;
            } else if (isFaulty) {
                isFound = true;
                tested.cells.get(i).isCalled = true;
            }
        }
        tested.causes = uncovered;
        tested.tested = isFound ? 'f' : works ? 'g' : 'u';
        tested.state = isFound ? 'b' : 'r';
        return tested.tested;
    }

    public int causes(int board) {
        Board asked = theBoard(board);
        noneIf(asked.state != 'r' || asked.tested != 'u');
        return asked.causes;
    }

    public int leave(int board) {
        Board leaving = theBoard(board);
        unsupportedIf(leaving.state != 'r' || leaving.tested != 'g');
        leaving.state = 'x';
        leaving.leftIn = now;
        return inState('x');
    }

    // ---- reels that lie

    public int setAside(int reel) {
        Reel aside = theReel(reel);
        unsupportedIf(aside.isAside);
        aside.isAside = true;
        int held = 0;
        for (Board board : boards) {
            if (board.state != 'x' && board.cells.stream().anyMatch(cell -> cell.reel == aside)) {
                held++;
                if (board.state == 'r') {
                    callHeld(board);
                }
            }
        }
        return held;
    }

    public boolean isHeld(int board) {
        Board asked = theBoard(board);
        return asked.state != 'x' && asked.cells.stream().anyMatch(cell -> cell.reel != null && cell.reel.isAside);
    }

    public int suspicions(int reel) {
        return theReel(reel).suspicions;
    }

    private List<Integer> recallOf(int number, boolean isLot) {
        if (isLot) {
            range(number, 0, 99);
        } else {
            index(number, reels);
        }
        List<Integer> recalled = new ArrayList<>();
        for (Board board : boards) {
            boolean isMeant = false;
            for (Cell cell : board.cells) {
                isMeant |= cell.reel != null && (isLot ? cell.reel.lot == number : cell.reel == reels.get(number));
            }
            if (board.state == 'x' && isMeant) {
                recalled.add(board.number);
            }
        }
        return recalled;
    }

    public int recall(int number, boolean isLot) {
        return recallOf(number, isLot).size();
    }

    public int recalled(int number, boolean isLot, int index) {
        List<Integer> recalled = recallOf(number, isLot);
        noneIf(index < 0 || index >= recalled.size());
        return recalled.get(index);
    }

    // ---- numbers over all

    public int shortage(int product, int many, int sort) {
        Product made = theProduct(product);
        index(sort, sorts);
        range(many, 1, 40);
        int missing = 0;
        for (int serial = made.serials; serial < made.serials + many; serial++) {
            for (int place = 0; place < made.spots.size(); place++) {
                missing += neededSort(product, place, serial) == sort ? 1 : 0;
            }
        }
        for (Reel reel : reels) {
            missing -= reel.says == sort && fit(reel) ? reel.parts : 0;
        }
        return Math.max(0, missing);
    }

    public int late(int order) {
        index(order, orders);
        int late = 0;
        for (Board board : orders.get(order).boards) {
            boolean isLate = board.state == 'x' ? board.leftIn > orders.get(order).due : now > orders.get(order).due;
            late += isLate ? 1 : 0;
        }
        return late;
    }

    public int lost() {
        return lost;
    }

    public int washes() {
        return washes;
    }

    public float leftShare() {
        if (boards.isEmpty()) {
            throw new ArithmeticException();
        }
        return (float) inState('x') / (float) boards.size();
    }

    public double meanHeat() {
        double sum = 0.0;
        int many = 0;
        for (Board board : boards) {
            for (Float greatest : board.greatest) {
                if (greatest != null) {
                    sum += (double) greatest;
                    many++;
                }
            }
        }
        if (many == 0) {
            throw new ArithmeticException();
        }
        return sum / (double) many;
    }

    public long checksum() {
        long sum = 7;
        for (Board board : boards) {
            sum = 31 * sum + board.state;
            for (Cell cell : board.cells) {
                sum = 31 * sum + reels.indexOf(cell.reel) + 1;
            }
        }
        return sum;
    }

    /** Here, only the parts of reels are counted; the rest of it can't be otherwise in a line that is right. */
    public boolean isSound() {
        for (Reel reel : reels) {
            long onBoards = boards.stream().flatMap(board -> board.cells.stream()).filter(cell -> cell.reel == reel).count();
            if (reel.parts + reel.lost + reel.mendedAway + onBoards != reel.told) {
                return false;
            }
        }
        return true;
    }
}
