import java.util.NoSuchElementException;

/** A line that puts parts on boards, as the document tells it. */
public final class Feederbank {
    private static final int MOST_SORTS = 10;
    private static final int MOST_PRODUCTS = 3;
    private static final int MOST_PLACES = 12;
    private static final int MOST_RULES = 8;
    private static final int MOST_REELS = 20;
    private static final int MOST_MACHINES = 3;
    private static final int SLOTS = 6;
    private static final int MOST_ORDERS = 10;
    private static final int MOST_BOARDS = 40;
    private static final int SIDES = 2;
    private static final int ZONES = 3;
    private static final int LAST_SERIAL = 99;
    private static final int LAST_LOT = 99;

    private static final int NONE = -1;
    private static final int ENDLESS_LIFE = 1000;
    private static final int BELT = 2;
    private static final int TRIES = 3;
    private static final int MOST_HEATS = 4;
    private static final int FAULT_LIMIT = 70;
    /** More than any height, and than any way between places. */
    private static final int ABOVE_ALL = 1000;

    // The oven and the eye keep their rows as machines come between them and the printer.
    private static final int PRINTER = 0;
    private static final int OVEN = MOST_MACHINES + 1;
    private static final int EYE = MOST_MACHINES + 2;
    private static final int STATIONS = MOST_MACHINES + 3;

    private static final char UNTESTED = ' ';

    private final Sort[] sorts;
    private int sortCount;
    private final Product[] products;
    private int productCount;
    private final Rules changes;
    private final Rules alternates;
    private final Reel[] reels;
    private int reelCount;
    private final Machine[] machines;
    private int machineCount;
    private final Order[] orders;
    private int orderCount;
    private final Board[] boards;
    private int boardCount;
    private final Station[] stations;
    private final Oven oven;
    private final Numbers numbers;
    private int clock;

    /** Creates a line without sorts, products, reels, machines and orders, at the tick 0. */
    public Feederbank() {
        sorts = new Sort[MOST_SORTS];
        for (int i = 0; i < MOST_SORTS; i++) {
            sorts[i] = new Sort();
        }
        products = new Product[MOST_PRODUCTS];
        for (int i = 0; i < MOST_PRODUCTS; i++) {
            products[i] = new Product();
        }
        reels = new Reel[MOST_REELS];
        for (int i = 0; i < MOST_REELS; i++) {
            reels[i] = new Reel();
        }
        machines = new Machine[MOST_MACHINES];
        for (int i = 0; i < MOST_MACHINES; i++) {
            machines[i] = new Machine();
        }
        orders = new Order[MOST_ORDERS];
        for (int i = 0; i < MOST_ORDERS; i++) {
            orders[i] = new Order();
        }
        boards = new Board[MOST_BOARDS];
        for (int i = 0; i < MOST_BOARDS; i++) {
            boards[i] = new Board();
        }
        stations = new Station[STATIONS];
        for (int i = 0; i < STATIONS; i++) {
            stations[i] = new Station();
        }
        changes = new Rules();
        alternates = new Rules();
        oven = new Oven();
        numbers = new Numbers();
    }

    // ---- sorts and products

    public int sort(int size, int height, int mass, int low, int high, int life) throws IllegalArgumentException, IllegalStateException {
        checkRange(size, 1, 3);
        checkRange(height, 1, 9);
        checkRange(mass, 1, 20);
        checkRange(low, 100, 300);
        checkRange(high, low, 300);
        if (life != 0) {
            checkRange(life, 10, 999);
        }
        checkRoom(sortCount, 1, MOST_SORTS);
        Sort sort = sorts[sortCount];
        sort.size = size;
        sort.height = height;
        sort.mass = mass;
        sort.low = low;
        sort.high = high;
        sort.life = life;
        sortCount++;
        return sortCount - 1;
    }

    public int product() throws IllegalStateException {
        checkRoom(productCount, 1, MOST_PRODUCTS);
        products[productCount].freshTick = clock;
        productCount++;
        return productCount - 1;
    }

    public int place(int product, int x, int y, int side, int sort) throws IndexOutOfBoundsException, IllegalArgumentException, UnsupportedOperationException, IllegalStateException {
        checkIndex(product, productCount);
        checkIndex(sort, sortCount);
        checkRange(x, 0, 19);
        checkRange(y, 0, 19);
        checkRange(side, 0, SIDES - 1);
        Product changed = products[product];
        if (changed.isTaken(x, y, side) || changed.boards > 0) {
            throw new UnsupportedOperationException();
        }
        checkRoom(changed.places, 1, MOST_PLACES);
        return changed.addPlace(x, y, side, sort);
    }

    public int change(int product, int place, int sort, int from) throws IndexOutOfBoundsException, IllegalArgumentException, UnsupportedOperationException, IllegalStateException {
        checkIndex(product, productCount);
        checkIndex(place, products[product].places);
        checkIndex(sort, sortCount);
        checkRange(from, 0, LAST_SERIAL);
        if (products[product].lastBegun >= from) {
            throw new UnsupportedOperationException();
        }
        checkRoom(changes.told, 1, MOST_RULES);
        int before = neededSort(product, place, from);
        changes.tell(product, place, sort, from);
        for (int i = 0; i < boardCount; i++) {
            readList(boards[i]);
        }
        return before;
    }

    public int alternate(int product, int sort, int other, int from) throws IndexOutOfBoundsException, IllegalArgumentException, UnsupportedOperationException, IllegalStateException {
        checkIndex(product, productCount);
        checkIndex(sort, sortCount);
        checkIndex(other, sortCount);
        checkRange(from, 0, LAST_SERIAL);
        if (sort == other || sorts[sort].size != sorts[other].size) {
            throw new UnsupportedOperationException();
        }
        checkRoom(alternates.told, 1, MOST_RULES);
        alternates.tell(product, sort, other, from);
        return alternates.told;
    }

    public int needed(int product, int place, int serial) throws IndexOutOfBoundsException, IllegalArgumentException {
        checkIndex(product, productCount);
        checkIndex(place, products[product].places);
        checkRange(serial, 0, LAST_SERIAL);
        return neededSort(product, place, serial);
    }

    private int neededSort(int product, int place, int serial) {
        int change = changes.inForce(product, place, serial);
        return change == NONE ? products[product].sorts[place] : changes.sorts[change];
    }

    private void readList(Board board) {
        for (int i = 0; i < products[board.product].places; i++) {
            board.sorts[i] = neededSort(board.product, i, board.serial);
        }
    }

    private boolean isRight(Board board, int place, int sort) {
        return alternates.mayStand(board.product, board.sorts[place], sort, board.serial);
    }

    // ---- reels and machines

    public int reel(int sort, int real, int lot, int parts) throws IndexOutOfBoundsException, IllegalArgumentException, IllegalStateException {
        checkIndex(sort, sortCount);
        checkIndex(real, sortCount);
        checkRange(lot, 0, LAST_LOT);
        checkRange(parts, 1, 200);
        checkRoom(reelCount, 1, MOST_REELS);
        Reel reel = reels[reelCount];
        reel.says = sort;
        reel.real = real;
        reel.lot = lot;
        reel.told = parts;
        reel.parts = parts;
        reel.life = sorts[sort].life;
        reelCount++;
        return reelCount - 1;
    }

    public int parts(int reel) throws IndexOutOfBoundsException {
        checkIndex(reel, reelCount);
        return reels[reel].parts;
    }

    public int lifeLeft(int reel) throws IndexOutOfBoundsException {
        checkIndex(reel, reelCount);
        return reels[reel].ticksLeft(clock);
    }

    public int bake(int reel) throws IndexOutOfBoundsException, UnsupportedOperationException {
        checkIndex(reel, reelCount);
        Reel baked = reels[reel];
        if (!baked.isFree() || baked.isBaked) {
            throw new UnsupportedOperationException();
        }
        int before = baked.ticksLeft(clock);
        baked.isBaked = true;
        baked.since = NONE;
        return before;
    }

    public boolean isFit(int reel) throws IndexOutOfBoundsException {
        checkIndex(reel, reelCount);
        return reels[reel].isUsable(clock);
    }

    public int machine(int nozzles) throws IllegalArgumentException, IllegalStateException {
        checkRange(nozzles, 1, 7);
        checkRoom(machineCount, 1, MOST_MACHINES);
        checkRoom(orderCount, 1, 1);
        machines[machineCount].nozzles = nozzles;
        machineCount++;
        return machineCount - 1;
    }

    public int load(int machine, int slot, int reel) throws IndexOutOfBoundsException, UnsupportedOperationException {
        checkIndex(machine, machineCount);
        checkIndex(slot, SLOTS);
        checkIndex(reel, reelCount);
        if (!reels[reel].isFree()) {
            throw new UnsupportedOperationException();
        }
        int before = machines[machine].slots[slot];
        if (before != NONE) {
            unload(reels[before]);
        }
        putInSlot(machine, slot, reel);
        return before;
    }

    private void unload(Reel reel) {
        if (reel.behind != NONE) {
            reels[reel.behind].isBehind = false;
        }
        reel.behind = NONE;
        reel.machine = NONE;
        reel.slot = NONE;
    }

    private void putInSlot(int machine, int slot, int reel) {
        Reel put = reels[reel];
        put.machine = machine;
        put.slot = slot;
        if (put.since == NONE) {
            put.since = clock;
        }
        machines[machine].slots[slot] = reel;
    }

    public int splice(int reel, int other) throws IndexOutOfBoundsException, UnsupportedOperationException {
        checkIndex(reel, reelCount);
        checkIndex(other, reelCount);
        Reel front = reels[reel];
        Reel rear = reels[other];
        if (front.machine == NONE || front.behind != NONE || !rear.isFree() || front.says != rear.says) {
            throw new UnsupportedOperationException();
        }
        front.behind = other;
        rear.isBehind = true;
        int both = front.parts + rear.parts;
        followIfEmpty(front);
        return both;
    }

    private void followIfEmpty(Reel front) {
        if (front.parts > 0 || front.behind == NONE || front.machine == NONE) {
            return;
        }
        int machine = front.machine;
        int slot = front.slot;
        int next = front.behind;
        unload(front);
        putInSlot(machine, slot, next);
    }

    private void takePart(int reel) {
        reels[reel].parts--;
        followIfEmpty(reels[reel]);
    }

    public int loaded(int machine, int slot) throws IndexOutOfBoundsException {
        checkIndex(machine, machineCount);
        checkIndex(slot, SLOTS);
        return machines[machine].slots[slot];
    }

    /** Returns the reel from which a machine takes for a sort that a board needs, or none. */
    private int servingReel(int machine, Board board, int sort) {
        if (!machines[machine].hasNozzle(sorts[sort].size)) {
            return NONE;
        }
        int reel = lowestReel(machine, sort);
        for (int i = 0; i < alternates.told && reel == NONE; i++) {
            if (alternates.isMeant(i, board.product, sort, board.serial)) {
                reel = lowestReel(machine, alternates.sorts[i]);
            }
        }
        return reel;
    }

    private int lowestReel(int machine, int sort) {
        int[] slots = machines[machine].slots;
        for (int i = 0; i < SLOTS; i++) {
            int reel = slots[i];
            if (reel != NONE && reels[reel].says == sort && reels[reel].isUsable(clock)) {
                return reel;
            }
        }
        return NONE;
    }

    // ---- settings

    public int zone(int zone, int heat) throws IllegalArgumentException, UnsupportedOperationException {
        checkRange(zone, 0, ZONES - 1);
        checkRange(heat, 20, 400);
        checkOvenEmpty();
        int before = oven.zones[zone];
        oven.zones[zone] = heat;
        return before;
    }

    public int speed(int speed) throws IllegalArgumentException, UnsupportedOperationException {
        checkRange(speed, 1, 9);
        checkOvenEmpty();
        int before = oven.speed;
        oven.speed = speed;
        return before;
    }

    public int limit(boolean isEye, int hundredths) throws IllegalArgumentException {
        checkRange(hundredths, 0, 100);
        int before = isEye ? numbers.eyeLimit : numbers.pasteLimit;
        if (isEye) {
            numbers.eyeLimit = hundredths;
        } else {
            numbers.pasteLimit = hundredths;
        }
        return before;
    }

    public int wipe(int product) throws IndexOutOfBoundsException {
        checkIndex(product, productCount);
        int before = products[product].dryness(clock);
        products[product].freshTick = clock;
        return before;
    }

    public int wear(int product) throws IndexOutOfBoundsException {
        checkIndex(product, productCount);
        return products[product].worn;
    }

    public boolean learn(int sort) throws IndexOutOfBoundsException {
        checkIndex(sort, sortCount);
        boolean before = sorts[sort].isAsked;
        sorts[sort].isAsked = true;
        return before;
    }

    public int approve(int sort) throws IndexOutOfBoundsException, UnsupportedOperationException {
        checkIndex(sort, sortCount);
        if (!sorts[sort].isAsked || sorts[sort].isLearned) {
            throw new UnsupportedOperationException();
        }
        sorts[sort].isLearned = true;
        int learned = 0;
        for (int i = 0; i < sortCount; i++) {
            learned += sorts[i].isLearned ? 1 : 0;
        }
        return learned;
    }

    public int order(int product, int many, int due) throws IndexOutOfBoundsException, IllegalArgumentException, UnsupportedOperationException, IllegalStateException {
        checkIndex(product, productCount);
        checkRange(many, 1, 9);
        checkRange(due, 0, 99999);
        if (products[product].places == 0) {
            throw new UnsupportedOperationException();
        }
        checkRoom(orderCount, 1, MOST_ORDERS);
        checkRoom(boardCount, many, MOST_BOARDS);
        Order order = orders[orderCount];
        order.first = boardCount;
        order.many = many;
        order.due = due;
        orderCount++;
        for (int i = 0; i < many; i++) {
            addBoard(product);
        }
        return order.first;
    }

    private void addBoard(int product) {
        Product made = products[product];
        Board board = boards[boardCount];
        board.product = product;
        board.serial = made.boards;
        board.side = made.hasSide(0) ? 0 : 1;
        readList(board);
        made.boards++;
        boardCount++;
        putInRow(boardCount - 1);
    }

    private void putInRow(int board) {
        boards[board].state = 'w';
        boards[board].isInside = false;
        boards[board].station = PRINTER;
        stations[PRINTER].join(board);
    }

    public int seed(int z) throws IllegalArgumentException {
        checkRange(z, 1, 2147483646);
        int before = numbers.z;
        numbers.z = z;
        return before;
    }

    // ---- the line

    public int tick(int ticks) throws IllegalArgumentException {
        checkRange(ticks, 1, 200);
        for (int i = 0; i < ticks; i++) {
            for (int station = STATIONS - 1; station >= 0; station--) {
                if (isThere(station)) {
                    finishAt(station);
                    beginAt(station);
                }
            }
            clock++;
        }
        return countInState('r') + countInState('x');
    }

    private boolean isThere(int station) {
        return station <= machineCount || station >= OVEN;
    }

    private int stationAfter(int station) {
        if (station < machineCount) {
            return station + 1;
        }
        return station < OVEN ? OVEN : EYE;
    }

    private int countInState(char state) {
        int found = 0;
        for (int i = 0; i < boardCount; i++) {
            found += boards[i].state == state ? 1 : 0;
        }
        return found;
    }

    private void finishAt(int index) {
        Station station = stations[index];
        if (station.board == NONE) {
            return;
        }
        if (station.ticks > 0) {
            station.ticks--;
        }
        if (station.ticks > 0) {
            return;
        }
        if (index == EYE) {
            passEye(station.board);
            station.board = NONE;
        } else if (stations[stationAfter(index)].waiting >= BELT) {
            station.blocked++;
        } else {
            moveOn(index, station.board);
            station.board = NONE;
        }
    }

    private void moveOn(int index, int number) {
        Board board = boards[number];
        if (index == PRINTER && isPoorlyPrinted(board)) {
            products[board.product].freshTick = clock;
            numbers.washes++;
            putInRow(number);
            return;
        }
        board.isInside = false;
        board.station = stationAfter(index);
        stations[board.station].join(number);
    }

    private void passEye(int number) {
        if (boards[number].called != 0) {
            boards[number].state = 'b';
        } else {
            goOn(number);
        }
    }

    /** Sends a board without called places to its next side, or makes it ready. */
    private void goOn(int number) {
        Board board = boards[number];
        if (board.side == 0 && products[board.product].hasSide(1)) {
            board.side = 1;
            putInRow(number);
            return;
        }
        int held = heldPlaces(board);
        board.called = held;
        board.state = held == 0 ? 'r' : 'b';
        board.tested = UNTESTED;
    }

    private void beginAt(int index) {
        Station station = stations[index];
        if (station.board != NONE) {
            return;
        }
        if (station.waiting == 0 || !canBegin(index, boards[station.row[0]])) {
            station.starved++;
            return;
        }
        station.board = station.releaseFirst();
        Board board = boards[station.board];
        board.state = 'l';
        board.isInside = true;
        switch (index) {
            case PRINTER:
                station.ticks = beginPrinting(board);
                break;
            case OVEN:
                station.ticks = beginHeating(board);
                break;
            case EYE:
                station.ticks = beginLooking(board);
                break;
            default:
                station.ticks = beginPlacing(board, index - 1);
                break;
        }
    }

    private boolean canBegin(int index, Board board) {
        if (index != PRINTER) {
            return true;
        }
        Product product = products[board.product];
        for (int i = 0; i < product.places; i++) {
            if (product.sides[i] == board.side && !isServed(board, i)) {
                return false;
            }
        }
        return true;
    }

    private boolean isServed(Board board, int place) {
        int sort = board.sorts[place];
        for (int i = 0; i < machineCount; i++) {
            if (servingReel(i, board, sort) != NONE) {
                return true;
            }
        }
        return false;
    }

    // ---- printing

    private int beginPrinting(Board board) {
        Product product = products[board.product];
        int lacking = product.worn + 8 * product.dryness(clock);
        // A washed board was dealt before, which must not count now.
        for (int i = 0; i < product.places; i++) {
            if (product.sides[i] == board.side) {
                board.dealt[i] = NONE;
            }
        }
        for (int i = 0; i < product.places; i++) {
            if (product.sides[i] == board.side) {
                board.dealt[i] = dealPlace(board, i);
                board.volumes[i] = Math.max(0, fullVolume(board, i) - lacking);
            }
        }
        product.worn++;
        product.freshTick = clock;
        product.lastBegun = Math.max(product.lastBegun, board.serial);
        return 3;
    }

    private int dealPlace(Board board, int place) {
        int sort = board.sorts[place];
        int best = NONE;
        int fewest = 0;
        for (int i = 0; i < machineCount; i++) {
            if (servingReel(i, board, sort) != NONE) {
                int many = Integer.bitCount(placesDealt(board, i));
                if (best == NONE || many < fewest) {
                    best = i;
                    fewest = many;
                }
            }
        }
        return best;
    }

    /** Returns the places of the side of a board that are dealt to a machine, as bits. */
    private int placesDealt(Board board, int machine) {
        Product product = products[board.product];
        int bits = 0;
        for (int i = 0; i < product.places; i++) {
            if (product.sides[i] == board.side && board.dealt[i] == machine) {
                bits |= 1 << i;
            }
        }
        return bits;
    }

    private int fullVolume(Board board, int place) {
        return 100 + 50 * sorts[board.sorts[place]].size;
    }

    private boolean isBelow(Board board, int place, int hundredths) {
        return board.volumes[place] * 100 < hundredths * fullVolume(board, place);
    }

    private boolean isPoorlyPrinted(Board board) {
        Product product = products[board.product];
        for (int i = 0; i < product.places; i++) {
            if (product.sides[i] == board.side && isBelow(board, i, numbers.pasteLimit)) {
                return true;
            }
        }
        return false;
    }

    // ---- placing

    private int beginPlacing(Board board, int machine) {
        Product product = products[board.product];
        int open = placesDealt(board, machine);
        int ticks = 1;
        int x = 0;
        int y = 0;
        for (int i = 0; i < MOST_PLACES && open != 0; i++) {
            int place = nextPlace(board, open, x, y);
            ticks += 1 + product.way(place, x, y) / 8;
            putPart(board, place, machine);
            x = product.xs[place];
            y = product.ys[place];
            open &= ~(1 << place);
        }
        return ticks;
    }

    /** Returns the lowest, then nearest, then first one of open places, of which there is one. */
    private int nextPlace(Board board, int open, int x, int y) {
        Product product = products[board.product];
        int best = 0;
        int bestHeight = ABOVE_ALL;
        int bestWay = ABOVE_ALL;
        for (int i = 0; i < product.places; i++) {
            if ((open >> i & 1) == 1) {
                int height = sorts[board.sorts[i]].height;
                int way = product.way(i, x, y);
                if (height < bestHeight || height == bestHeight && way < bestWay) {
                    best = i;
                    bestHeight = height;
                    bestWay = way;
                }
            }
        }
        return best;
    }

    private void putPart(Board board, int place, int machine) {
        int sort = board.sorts[place];
        for (int i = 0; i < TRIES; i++) {
            int reel = servingReel(machine, board, sort);
            if (reel == NONE) {
                return;
            }
            takePart(reel);
            if (!numbers.isPartLost()) {
                board.reels[place] = reel;
                return;
            }
            reels[reel].gone++;
            numbers.lost++;
        }
    }

    // ---- the oven

    private int beginHeating(Board board) {
        int mass = 10;
        for (int i = 0; i < products[board.product].places; i++) {
            if (board.reels[i] != NONE) {
                mass += sorts[reels[board.reels[i]].says].mass;
                board.heats[i]++;
            }
        }
        Heating heating = board.heatings[board.side];
        heating.keep(oven, mass);
        heating.peak = heating.greatest();
        heating.isDone = true;
        return 12 / oven.speed + 1;
    }

    private void checkOvenEmpty() {
        if (stations[OVEN].board != NONE) {
            throw new UnsupportedOperationException();
        }
    }

    // ---- the eye and faults

    private int beginLooking(Board board) {
        Product product = products[board.product];
        for (int i = 0; i < product.places; i++) {
            if (product.sides[i] == board.side && isCalledByEye(board, i)) {
                board.called |= 1 << i;
            }
        }
        return 2;
    }

    private boolean isCalledByEye(Board board, int place) {
        char fault = faultOf(board, place);
        boolean isSeen = fault == 'm' || fault == 'b';
        if (fault == 'w') {
            isSeen = eyeSeesWrong(board, place);
        }
        if (fault == 'c') {
            isSeen = heatingOf(board, place).peak <= (float) (sorts[board.sorts[place]].low - 10);
        }
        return isSeen || isBelow(board, place, numbers.eyeLimit);
    }

    private boolean eyeSeesWrong(Board board, int place) {
        int number = board.reels[place];
        if (number == NONE) {
            return false;
        }
        Sort real = sorts[reels[number].real];
        Sort sort = sorts[board.sorts[place]];
        boolean isSeen = sort.isLearned || real.size != sort.size || real.height != sort.height;
        if (isSeen) {
            reels[number].suspicions++;
        }
        return isSeen;
    }

    private Heating heatingOf(Board board, int place) {
        return board.heatings[products[board.product].sides[place]];
    }

    /** Returns the fault of a place of a side that was in the oven. */
    private char faultOf(Board board, int place) {
        int reel = board.reels[place];
        if (reel == NONE) {
            return 'm';
        }
        if (!isRight(board, place, reels[reel].real)) {
            return 'w';
        }
        if (board.isMended(place)) {
            return '-';
        }
        Sort sort = sorts[board.sorts[place]];
        float peak = heatingOf(board, place).peak;
        if (peak > (float) sort.high) {
            return 'b';
        }
        if (peak < (float) sort.low) {
            return 'c';
        }
        return isBelow(board, place, FAULT_LIMIT) ? 'p' : '-';
    }

    // ---- what is asked of the line and its boards

    public int now() {
        return clock;
    }

    public char stateOf(int board) throws IndexOutOfBoundsException {
        checkIndex(board, boardCount);
        return boards[board].state;
    }

    public int stationOf(int board) throws IndexOutOfBoundsException, NoSuchElementException {
        checkIndex(board, boardCount);
        Board asked = boards[board];
        if (asked.state != 'w' && asked.state != 'l') {
            throw new NoSuchElementException();
        }
        int number = asked.station < OVEN ? asked.station : asked.station - OVEN + machineCount + 1;
        return asked.isInside ? number : -1 - number;
    }

    private Station stationNumbered(int number) {
        checkIndex(number, machineCount + 3);
        return stations[number <= machineCount ? number : number - machineCount - 1 + OVEN];
    }

    public int waiting(int station) throws IndexOutOfBoundsException {
        return stationNumbered(station).waiting;
    }

    public int idle(int station, boolean isBlocked) throws IndexOutOfBoundsException {
        Station asked = stationNumbered(station);
        return isBlocked ? asked.blocked : asked.starved;
    }

    public int at(int board, int place, char what) throws IndexOutOfBoundsException, IllegalArgumentException {
        checkPlace(board, place);
        Board asked = boards[board];
        if (what == 'r') {
            return asked.reels[place];
        }
        if (what == 'v') {
            return asked.volumes[place];
        }
        if (what == 'd') {
            return asked.dealt[place];
        }
        if (what == 'h') {
            return asked.heats[place];
        }
        if (what != 'c') {
            throw new IllegalArgumentException();
        }
        return asked.isCalled(place) ? 1 : 0;
    }

    public int heatBits(int board, int side) throws IndexOutOfBoundsException, NoSuchElementException {
        checkIndex(board, boardCount);
        checkIndex(side, SIDES);
        Heating heating = boards[board].heatings[side];
        if (!heating.isDone) {
            throw new NoSuchElementException();
        }
        return bitsOf(heating.peak);
    }

    /** Returns the bits of a float that is not below 1. */
    private static int bitsOf(float value) {
        float rest = value;
        int power = 127;
        for (int i = 0; i < 127 && rest >= 2.0f; i++) {
            rest = rest / 2.0f;
            power++;
        }
        return (power << 23) + (int) ((rest - 1.0f) * 8388608.0f);
    }

    public char fault(int board, int place) throws IndexOutOfBoundsException, NoSuchElementException {
        checkPlace(board, place);
        if (!heatingOf(boards[board], place).isDone) {
            throw new NoSuchElementException();
        }
        return faultOf(boards[board], place);
    }

    // ---- the bench

    public char mend(int board, int place, int reel) throws IndexOutOfBoundsException, UnsupportedOperationException {
        checkPlace(board, place);
        checkIndex(reel, reelCount);
        checkCalledAtBench(board, place);
        Board mended = boards[board];
        if (!reels[reel].isUsable(clock) || !isRight(mended, place, reels[reel].says)) {
            throw new UnsupportedOperationException();
        }
        if (mended.reels[place] != NONE) {
            reels[mended.reels[place]].gone++;
        }
        takePart(reel);
        mended.putMended(place, reel);
        if (mended.heats[place] > MOST_HEATS) {
            mended.state = 's';
        } else if (mended.called == 0) {
            goOn(board);
        }
        return mended.state;
    }

    private void checkCalledAtBench(int board, int place) {
        if (boards[board].state != 'b' || !boards[board].isCalled(place)) {
            throw new UnsupportedOperationException();
        }
    }

    public boolean judge(int board, int place) throws IndexOutOfBoundsException, UnsupportedOperationException {
        checkPlace(board, place);
        checkCalledAtBench(board, place);
        Board judged = boards[board];
        boolean isFalse = faultOf(judged, place) == '-';
        if (isFalse) {
            numbers.falseCalls++;
        }
        judged.called &= ~(1 << place);
        if (judged.called == 0) {
            goOn(board);
        }
        return isFalse;
    }

    public int falseCalls() {
        return numbers.falseCalls;
    }

    // ---- tests

    public int cover(int product, int places) throws IndexOutOfBoundsException, IllegalArgumentException {
        checkIndex(product, productCount);
        checkRange(places, 0, (1 << MOST_PLACES) - 1);
        int before = products[product].covered;
        products[product].covered = places;
        return before;
    }

    public char test(int board) throws IndexOutOfBoundsException, UnsupportedOperationException {
        checkIndex(board, boardCount);
        checkReady(board);
        Board tested = boards[board];
        Product product = products[tested.product];
        int faulty = faultyPlaces(tested);
        int found = faulty & product.covered;
        if (found != 0) {
            tested.tested = 'f';
            tested.called = found;
            tested.state = 'b';
        } else if (faulty != 0) {
            tested.tested = 'u';
            tested.causes = product.allPlaces() & ~product.covered;
        } else {
            tested.tested = 'g';
        }
        return tested.tested;
    }

    private int faultyPlaces(Board board) {
        int bits = 0;
        for (int i = 0; i < products[board.product].places; i++) {
            if (faultOf(board, i) != '-') {
                bits |= 1 << i;
            }
        }
        return bits;
    }

    private void checkReady(int board) {
        if (boards[board].state != 'r') {
            throw new UnsupportedOperationException();
        }
    }

    public int causes(int board) throws IndexOutOfBoundsException, NoSuchElementException {
        checkIndex(board, boardCount);
        if (boards[board].state != 'r' || boards[board].tested != 'u') {
            throw new NoSuchElementException();
        }
        return boards[board].causes;
    }

    public int leave(int board) throws IndexOutOfBoundsException, UnsupportedOperationException {
        checkIndex(board, boardCount);
        checkReady(board);
        if (boards[board].tested != 'g') {
            throw new UnsupportedOperationException();
        }
        boards[board].state = 'x';
        boards[board].leftTick = clock;
        return countInState('x');
    }

    // ---- reels that lie

    public int setAside(int reel) throws IndexOutOfBoundsException, UnsupportedOperationException {
        checkIndex(reel, reelCount);
        if (reels[reel].isAside) {
            throw new UnsupportedOperationException();
        }
        reels[reel].isAside = true;
        int held = 0;
        for (int i = 0; i < boardCount; i++) {
            if (boards[i].state != 'x' && hasPartOf(boards[i], reel)) {
                held++;
                callBack(boards[i]);
            }
        }
        return held;
    }

    private boolean hasPartOf(Board board, int reel) {
        for (int i = 0; i < products[board.product].places; i++) {
            if (board.reels[i] == reel) {
                return true;
            }
        }
        return false;
    }

    private void callBack(Board board) {
        if (board.state == 'r') {
            board.called = heldPlaces(board);
            board.state = 'b';
        }
    }

    /** Returns the places of a board with parts of reels that are set aside, as bits. */
    private int heldPlaces(Board board) {
        int bits = 0;
        for (int i = 0; i < products[board.product].places; i++) {
            if (board.reels[i] != NONE && reels[board.reels[i]].isAside) {
                bits |= 1 << i;
            }
        }
        return bits;
    }

    public boolean isHeld(int board) throws IndexOutOfBoundsException {
        checkIndex(board, boardCount);
        return boards[board].state != 'x' && heldPlaces(boards[board]) != 0;
    }

    public int suspicions(int reel) throws IndexOutOfBoundsException {
        checkIndex(reel, reelCount);
        return reels[reel].suspicions;
    }

    public int recall(int number, boolean isLot) throws IndexOutOfBoundsException, IllegalArgumentException {
        checkRecall(number, isLot);
        int found = 0;
        for (int i = 0; i < boardCount; i++) {
            found += isRecalled(boards[i], number, isLot) ? 1 : 0;
        }
        return found;
    }

    public int recalled(int number, boolean isLot, int index) throws IndexOutOfBoundsException, IllegalArgumentException, NoSuchElementException {
        checkRecall(number, isLot);
        int found = 0;
        for (int i = 0; i < boardCount; i++) {
            if (isRecalled(boards[i], number, isLot)) {
                if (found == index) {
                    return i;
                }
                found++;
            }
        }
        throw new NoSuchElementException();
    }

    private void checkRecall(int number, boolean isLot) {
        if (isLot) {
            checkRange(number, 0, LAST_LOT);
        } else {
            checkIndex(number, reelCount);
        }
    }

    private boolean isRecalled(Board board, int number, boolean isLot) {
        if (board.state != 'x') {
            return false;
        }
        for (int i = 0; i < products[board.product].places; i++) {
            int reel = board.reels[i];
            if (reel != NONE && (isLot ? reels[reel].lot : reel) == number) {
                return true;
            }
        }
        return false;
    }

    // ---- numbers over all

    public int shortage(int product, int many, int sort) throws IndexOutOfBoundsException, IllegalArgumentException {
        checkIndex(product, productCount);
        checkIndex(sort, sortCount);
        checkRange(many, 1, MOST_BOARDS);
        Product made = products[product];
        int missing = 0;
        for (int i = 0; i < many; i++) {
            for (int j = 0; j < made.places; j++) {
                missing += neededSort(product, j, made.boards + i) == sort ? 1 : 0;
            }
        }
        for (int i = 0; i < reelCount; i++) {
            if (reels[i].says == sort && reels[i].isUsable(clock)) {
                missing -= reels[i].parts;
            }
        }
        return Math.max(0, missing);
    }

    public int late(int order) throws IndexOutOfBoundsException {
        checkIndex(order, orderCount);
        Order asked = orders[order];
        int found = 0;
        for (int i = 0; i < asked.many; i++) {
            Board board = boards[asked.first + i];
            int end = board.state == 'x' ? board.leftTick : clock;
            found += end > asked.due ? 1 : 0;
        }
        return found;
    }

    public int lost() {
        return numbers.lost;
    }

    public int washes() {
        return numbers.washes;
    }

    public float leftShare() throws ArithmeticException {
        if (boardCount == 0) {
            throw new ArithmeticException();
        }
        return (float) countInState('x') / (float) boardCount;
    }

    public double meanHeat() throws ArithmeticException {
        double sum = 0.0;
        int many = 0;
        for (int i = 0; i < boardCount; i++) {
            for (int side = 0; side < SIDES; side++) {
                if (boards[i].heatings[side].isDone) {
                    sum += (double) boards[i].heatings[side].peak;
                    many++;
                }
            }
        }
        if (many == 0) {
            throw new ArithmeticException();
        }
        return sum / (double) many;
    }

    public long checksum() {
        long sum = 7;
        for (int i = 0; i < boardCount; i++) {
            Board board = boards[i];
            sum = 31 * sum + board.state;
            for (int j = 0; j < products[board.product].places; j++) {
                sum = 31 * sum + board.reels[j] + 1;
            }
        }
        return sum;
    }

    public boolean isSound() {
        for (int i = 0; i < boardCount; i++) {
            if (boards[i].state == 'x' && faultyPlaces(boards[i]) != 0) {
                return false;
            }
            if (timesInLine(i) > 1 || !hasHeatsAnew(boards[i])) {
                return false;
            }
        }
        for (int i = 0; i < reelCount; i++) {
            if (reels[i].parts + reels[i].gone + partsOnBoards(i) != reels[i].told) {
                return false;
            }
        }
        return true;
    }

    private int timesInLine(int board) {
        int times = 0;
        for (int i = 0; i < STATIONS; i++) {
            Station station = stations[i];
            times += station.board == board ? 1 : 0;
            for (int j = 0; j < station.waiting; j++) {
                times += station.row[j] == board ? 1 : 0;
            }
        }
        return times;
    }

    private static boolean hasHeatsAnew(Board board) {
        for (int i = 0; i < SIDES; i++) {
            Heating heating = board.heatings[i];
            if (heating.isDone && heating.peak != heating.greatest()) {
                return false;
            }
        }
        return true;
    }

    private int partsOnBoards(int reel) {
        int parts = 0;
        for (int i = 0; i < boardCount; i++) {
            for (int j = 0; j < products[boards[i].product].places; j++) {
                parts += boards[i].reels[j] == reel ? 1 : 0;
            }
        }
        return parts;
    }

    // ---- what is refused

    private static void checkIndex(int index, int count) {
        if (index < 0 || index >= count) {
            throw new IndexOutOfBoundsException();
        }
    }

    private void checkPlace(int board, int place) {
        checkIndex(board, boardCount);
        checkIndex(place, products[boards[board].product].places);
    }

    private static void checkRange(int value, int low, int high) {
        if (value < low || value > high) {
            throw new IllegalArgumentException();
        }
    }

    private static void checkRoom(int count, int more, int most) {
        if (count + more > most) {
            throw new IllegalStateException();
        }
    }

    // ---- the things of the line

    private static final class Sort {
        int size;
        int height;
        int mass;
        int low;
        int high;
        int life;
        boolean isAsked;
        boolean isLearned;
    }

    private static final class Product {
        final int[] xs;
        final int[] ys;
        final int[] sides;
        final int[] sorts;
        int places;
        int boards;
        int worn;
        int freshTick;
        int covered;
        int lastBegun;

        Product() {
            xs = new int[MOST_PLACES];
            ys = new int[MOST_PLACES];
            sides = new int[MOST_PLACES];
            sorts = new int[MOST_PLACES];
            lastBegun = NONE;
        }

        boolean isTaken(int x, int y, int side) {
            for (int i = 0; i < places; i++) {
                if (xs[i] == x && ys[i] == y && sides[i] == side) {
                    return true;
                }
            }
            return false;
        }

        int addPlace(int x, int y, int side, int sort) {
            xs[places] = x;
            ys[places] = y;
            sides[places] = side;
            sorts[places] = sort;
            places++;
            return places - 1;
        }

        boolean hasSide(int side) {
            for (int i = 0; i < places; i++) {
                if (sides[i] == side) {
                    return true;
                }
            }
            return false;
        }

        int way(int place, int x, int y) {
            return Math.abs(xs[place] - x) + Math.abs(ys[place] - y);
        }

        int dryness(int clock) {
            return Math.min(5, (clock - freshTick) / 10);
        }

        int allPlaces() {
            return (1 << places) - 1;
        }
    }

    /** Changes of places, or alternates of sorts, in the order in which they were told. */
    private static final class Rules {
        final int[] products;
        /** The places that are changed, or the sorts for which others may stand. */
        final int[] subjects;
        final int[] sorts;
        final int[] froms;
        int told;

        Rules() {
            products = new int[MOST_RULES];
            subjects = new int[MOST_RULES];
            sorts = new int[MOST_RULES];
            froms = new int[MOST_RULES];
        }

        void tell(int product, int subject, int sort, int from) {
            products[told] = product;
            subjects[told] = subject;
            sorts[told] = sort;
            froms[told] = from;
            told++;
        }

        boolean isMeant(int index, int product, int subject, int serial) {
            return products[index] == product && subjects[index] == subject && froms[index] <= serial;
        }

        /** Returns the latest told one of the greatest serial number that is not above, or none. */
        int inForce(int product, int subject, int serial) {
            int best = NONE;
            for (int i = 0; i < told; i++) {
                if (isMeant(i, product, subject, serial) && (best == NONE || froms[i] >= froms[best])) {
                    best = i;
                }
            }
            return best;
        }

        boolean mayStand(int product, int needed, int sort, int serial) {
            boolean may = sort == needed;
            for (int i = 0; i < told && !may; i++) {
                may = sorts[i] == sort && subjects[i] == needed && products[i] == product && froms[i] <= serial;
            }
            return may;
        }
    }

    private static final class Reel {
        int says;
        int real;
        int lot;
        int told;
        int parts;
        int life;
        /** The tick in which its life began to run, or none. */
        int since;
        boolean isBaked;
        boolean isAside;
        int machine;
        int slot;
        /** The reel that is spliced behind it, or none. */
        int behind;
        boolean isBehind;
        int suspicions;
        /** Its parts that were lost, or taken off a board in mending. */
        int gone;

        Reel() {
            since = NONE;
            machine = NONE;
            slot = NONE;
            behind = NONE;
        }

        boolean isFree() {
            return machine == NONE && !isBehind;
        }

        int ticksLeft(int clock) {
            if (life == 0 || since == NONE) {
                return ENDLESS_LIFE;
            }
            return Math.max(0, life - (clock - since));
        }

        boolean isUsable(int clock) {
            boolean isLifeOver = life > 0 && since != NONE && clock - since >= life;
            return parts > 0 && !isAside && !isLifeOver;
        }
    }

    private static final class Machine {
        final int[] slots;
        int nozzles;

        Machine() {
            slots = new int[SLOTS];
            for (int i = 0; i < SLOTS; i++) {
                slots[i] = NONE;
            }
        }

        boolean hasNozzle(int size) {
            return (nozzles >> (size - 1) & 1) == 1;
        }
    }

    private static final class Order {
        int first;
        int many;
        int due;
    }

    private static final class Board {
        int product;
        int serial;
        int side;
        char state;
        int station;
        boolean isInside;
        /** The sorts that its places need, as its list at its serial number tells. */
        final int[] sorts;
        final int[] reels;
        final int[] volumes;
        final int[] dealt;
        final int[] heats;
        final Heating[] heatings;
        int called;
        int mended;
        char tested;
        int causes;
        int leftTick;

        Board() {
            sorts = new int[MOST_PLACES];
            reels = new int[MOST_PLACES];
            volumes = new int[MOST_PLACES];
            dealt = new int[MOST_PLACES];
            heats = new int[MOST_PLACES];
            for (int i = 0; i < MOST_PLACES; i++) {
                reels[i] = NONE;
                volumes[i] = NONE;
                dealt[i] = NONE;
            }
            heatings = new Heating[SIDES];
            for (int i = 0; i < SIDES; i++) {
                heatings[i] = new Heating();
            }
            tested = UNTESTED;
        }

        boolean isCalled(int place) {
            return (called >> place & 1) == 1;
        }

        boolean isMended(int place) {
            return (mended >> place & 1) == 1;
        }

        void putMended(int place, int reel) {
            reels[place] = reel;
            heats[place]++;
            mended |= 1 << place;
            called &= ~(1 << place);
        }
    }

    private static final class Station {
        final int[] row;
        int waiting;
        int board;
        int ticks;
        int blocked;
        int starved;

        Station() {
            row = new int[MOST_BOARDS];
            board = NONE;
        }

        void join(int number) {
            if (waiting < MOST_BOARDS) {
                row[waiting] = number;
                waiting++;
            }
        }

        /** Takes the first board off the row, which is not empty. */
        int releaseFirst() {
            int first = row[0];
            waiting--;
            for (int i = 0; i < waiting; i++) {
                row[i] = row[i + 1];
            }
            return first;
        }
    }

    private static final class Oven {
        final int[] zones;
        int speed;

        Oven() {
            zones = new int[ZONES];
            zones[0] = 150;
            zones[1] = 200;
            zones[2] = 250;
            speed = 3;
        }
    }

    /** What the oven did to a side, kept so that it can be reckoned anew. */
    private static final class Heating {
        final int[] zones;
        int speed;
        int mass;
        boolean isDone;
        float peak;

        Heating() {
            zones = new int[ZONES];
        }

        void keep(Oven oven, int boardMass) {
            for (int i = 0; i < ZONES; i++) {
                zones[i] = oven.zones[i];
            }
            speed = oven.speed;
            mass = boardMass;
        }

        float greatest() {
            float slowness = (float) mass + 10.0f * (float) speed;
            float share = slowness > 90.0f ? 90.0f / slowness : 1.0f;
            float heat = 20.0f;
            float most = heat;
            for (int i = 0; i < ZONES; i++) {
                heat = heat + ((float) zones[i] - heat) * share;
                most = heat > most ? heat : most;
            }
            return most;
        }
    }

    private static final class Numbers {
        int z;
        int pasteLimit;
        int eyeLimit;
        int falseCalls;
        int washes;
        int lost;

        Numbers() {
            z = 1;
            pasteLimit = 60;
            eyeLimit = 75;
        }

        /** Makes one try, which moves z on. */
        boolean isPartLost() {
            z = (int) (48271L * z % 2147483647L);
            return z % 40 == 0;
        }
    }
}
