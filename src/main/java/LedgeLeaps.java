import java.util.Arrays;

/** A level of cells, a runner in it, and which of its ledges only a running leap comes to. */
public final class LedgeLeaps {
    public static final int NONE = -1;

    private static final int COLUMNS = 20;
    private static final int ROWS = 10;
    private static final int CELLS = COLUMNS * ROWS;
    /** Of two cells one above the other, one can stand in one alone, so half the cells are enough. */
    private static final int MOST_LEDGES = CELLS / 2;
    private static final int MOST_RUN_UP = 3;
    private static final int RIGHT = 1;
    private static final int LEFT = -1;

    private static final int RISE = 0;
    private static final int FALL = 1;
    private static final int SLIDE = 2;
    private static final int SETTINGS = 3;
    private static final int[] GREATEST_VALUES = {4, 5, 5};

    private static final int SLOTS = 2;
    private static final int MOST_SAVED = 6;
    private static final int MOST_CODES = 60;
    private static final int LEAST_CODE = 33;
    private static final int GREATEST_CODE = 126;
    private static final int MOST_TICKS = 30;
    private static final int ARC_BASE = 200;
    /** Four ticks up, one level, nine rows down and the end are the most; this is far above. */
    private static final int FLIGHT_BOUND = 100;

    private static final int COUNTS = 10;
    private static final int CELL_NUMBERS = 5;
    private static final int LEDGE_NUMBERS = 6;
    private static final int LEAP_NUMBERS = 5;

    private final World world = new World();
    private final History history = new History();
    private final Snapshots snapshots = new Snapshots();
    private final OrderText text = new OrderText();
    private final Flight flight = new Flight();
    private final LedgeMap map = new LedgeMap();
    private final Reaches reaches = new Reaches();
    private final Routes routes = new Routes();
    private boolean mapIsKnown;
    private boolean reachesAreKnown;

    public LedgeLeaps() {
    }

    // ---- the level

    public int build(int column, int row) throws IndexOutOfBoundsException {
        if (!isCell(column, row)) {
            throw new IndexOutOfBoundsException("no such cell");
        }
        history.save(world);
        return buildOrBreak(column, row);
    }

    public int set(int setting, int value) throws IndexOutOfBoundsException, IllegalArgumentException {
        if (!isSetting(setting)) {
            throw new IndexOutOfBoundsException("no such setting");
        }
        if (value < 1 || value > at(GREATEST_VALUES, setting)) {
            throw new IllegalArgumentException("value out of range");
        }
        history.save(world);
        int previous = at(world.settings, setting);
        store(world.settings, setting, value);
        forgetLevel();
        return previous;
    }

    // ---- the runner

    public int walk(int side) throws IllegalArgumentException {
        if (!isSide(side)) {
            throw new IllegalArgumentException("no such side");
        }
        history.save(world);
        return runnerWalks(side);
    }

    public int leap(int side, int runUp) throws IllegalArgumentException {
        if (!isSide(side) || !isRunUp(runUp)) {
            throw new IllegalArgumentException("no such leap");
        }
        history.save(world);
        return runnerLeaps(side, runUp);
    }

    public int put(int column, int row) throws IndexOutOfBoundsException {
        if (!isCell(column, row)) {
            throw new IndexOutOfBoundsException("no such cell");
        }
        history.save(world);
        if (!world.canStand(column, row)) {
            world.refused++;
            return NONE;
        }
        world.column = column;
        world.row = row;
        knowMap();
        return map.ledgeAt(column, row);
    }

    // ---- texts, snapshots

    public int append(int code) throws IllegalArgumentException, IllegalStateException {
        if (code < LEAST_CODE || code > GREATEST_CODE) {
            throw new IllegalArgumentException("no such character");
        }
        if (text.isFull()) {
            throw new IllegalStateException("the buffer is full");
        }
        text.add(code);
        return text.length;
    }

    public int clearBuffer() {
        int length = text.length;
        text.empty();
        return length;
    }

    public int firstError() {
        return text.errorPlace();
    }

    public int run() throws IllegalArgumentException {
        if (!text.tellsOrders()) {
            throw new IllegalArgumentException("the buffer does not tell orders");
        }
        history.save(world);
        int done = 0;
        boolean refused = false;
        text.rewind();
        for (int i = 0; i < MOST_CODES && text.hasMore() && !refused; i++) {
            text.readOrder();
            refused = doOrder() == NONE;
            if (!refused) {
                done++;
            }
        }
        text.empty();
        return done;
    }

    public int keep(int slot) throws IllegalArgumentException {
        if (!isSlot(slot)) {
            throw new IllegalArgumentException("no such slot");
        }
        snapshots.take(slot, world);
        return world.blockCount();
    }

    public int goBack(int slot) throws IllegalArgumentException, IllegalStateException {
        if (!isSlot(slot)) {
            throw new IllegalArgumentException("no such slot");
        }
        if (!snapshots.has(slot)) {
            throw new IllegalStateException("no snapshot in the slot");
        }
        history.save(world);
        snapshots.giveBack(slot, world);
        forgetLevel();
        return world.blockCount();
    }

    public int undo() throws IllegalStateException {
        if (history.size == 0) {
            throw new IllegalStateException("no saved state");
        }
        history.restoreLatest(world);
        forgetLevel();
        return history.size;
    }

    // ---- looks; nothing is changed

    public int cellOf(int column, int row, int what) throws IndexOutOfBoundsException, IllegalArgumentException {
        if (!isCell(column, row)) {
            throw new IndexOutOfBoundsException("no such cell");
        }
        if (what < 0 || what >= CELL_NUMBERS) {
            throw new IllegalArgumentException("no such number of a cell");
        }
        knowMap();
        return cellNumber(column, row, what);
    }

    public int ledgeOf(int ledge, int what) throws IndexOutOfBoundsException, IllegalArgumentException {
        knowMap();
        if (!map.has(ledge)) {
            throw new IndexOutOfBoundsException("no such ledge");
        }
        if (what < 0 || what >= LEDGE_NUMBERS) {
            throw new IllegalArgumentException("no such number of a ledge");
        }
        if (what >= 3) {
            knowReaches();
        }
        return ledgeNumber(ledge, what);
    }

    public int count(int what) throws IllegalArgumentException {
        if (what < 0 || what >= COUNTS) {
            throw new IllegalArgumentException("no such count");
        }
        knowMap();
        if (what == 8) {
            knowReaches();
            spreadFromRunner();
        }
        return countedNumber(what);
    }

    public int setting(int setting) throws IndexOutOfBoundsException {
        if (!isSetting(setting)) {
            throw new IndexOutOfBoundsException("no such setting");
        }
        return at(world.settings, setting);
    }

    // ---- what would be; nothing is changed

    public int arc(int ticks, int what) throws IllegalArgumentException {
        if (ticks < 0 || ticks > MOST_TICKS || what < 0 || what > 1) {
            throw new IllegalArgumentException("no such arc");
        }
        return arcNumber(ticks, what);
    }

    public int ifLeapt(int column, int row, int side, int runUp, int what)
            throws IndexOutOfBoundsException, IllegalArgumentException {
        if (!isCell(column, row)) {
            throw new IndexOutOfBoundsException("no such cell");
        }
        if (!isSide(side) || !isRunUp(runUp) || what < 0 || what >= LEAP_NUMBERS) {
            throw new IllegalArgumentException("no such leap");
        }
        return leapNumber(column, row, side, runUp, what);
    }

    public int slowest(int from, int to) throws IndexOutOfBoundsException {
        knowMap();
        if (!map.has(from) || !map.has(to)) {
            throw new IndexOutOfBoundsException("no such ledge");
        }
        knowReaches();
        return reaches.leastRunUp(from, to);
    }

    public int fewest(int from, int to, int runUp, int what)
            throws IndexOutOfBoundsException, IllegalArgumentException {
        knowMap();
        if (!map.has(from) || !map.has(to)) {
            throw new IndexOutOfBoundsException("no such ledge");
        }
        if (!isRunUp(runUp) || what < 0 || what > 1) {
            throw new IllegalArgumentException("argument out of range");
        }
        knowReaches();
        if (what == 0) {
            routes.spreadFrom(reaches, from, runUp);
            return routes.leapsBySpreading(to, runUp);
        }
        routes.makeTable(reaches, runUp);
        return routes.leapsByTable(from, to);
    }

    public int onlyRunning(int rank) throws IllegalArgumentException {
        if (rank < 0) {
            throw new IllegalArgumentException("rank below 0");
        }
        knowReaches();
        spreadFromRunner();
        return onlyRunningLedge(rank);
    }

    public double reachShare() {
        knowReaches();
        spreadFromRunner();
        return shareOfReached();
    }

    public long digest() {
        knowReaches();
        spreadFromRunner();
        routes.makeTable(reaches, MOST_RUN_UP);
        long hash = hashOfCounts(3511L);
        hash = hashOfCells(hash);
        hash = hashOfLedges(hash);
        hash = hashOfLeaps(hash);
        return hashOfTheRest(hash);
    }

    // ---- arguments

    private static boolean isCell(int column, int row) {
        return column >= 0 && column < COLUMNS && row >= 0 && row < ROWS;
    }

    private static boolean isSetting(int setting) {
        return setting >= 0 && setting < SETTINGS;
    }

    private static boolean isSide(int side) {
        return side == RIGHT || side == LEFT;
    }

    private static boolean isRunUp(int runUp) {
        return runUp >= 0 && runUp <= MOST_RUN_UP;
    }

    private static boolean isSlot(int slot) {
        return slot >= 0 && slot < SLOTS;
    }

    // ---- rows of numbers, of which no index outside is ever used

    private static int at(int[] numbers, int index) {
        return index >= 0 && index < numbers.length ? numbers[index] : NONE;
    }

    private static void store(int[] numbers, int index, int number) {
        if (index >= 0 && index < numbers.length) {
            numbers[index] = number;
        }
    }

    // ---- what follows from the level is found when it is first asked for

    private void forgetLevel() {
        mapIsKnown = false;
        reachesAreKnown = false;
    }

    private void knowMap() {
        if (!mapIsKnown) {
            map.draw(world);
            mapIsKnown = true;
        }
    }

    private void knowReaches() {
        knowMap();
        if (!reachesAreKnown) {
            reaches.find(world, map);
            routes.forget();
            reachesAreKnown = true;
        }
    }

    // ---- what build, walk and leap do, called by themselves or from a text

    private int buildOrBreak(int column, int row) {
        if (column == world.column && row == world.row) {
            world.refused++;
            return NONE;
        }
        world.turnBlock(column, row);
        world.letRunnerFall();
        forgetLevel();
        return world.isBlock(column, row) ? 1 : 0;
    }

    private int runnerWalks(int side) {
        if (!world.canStand(world.column + side, world.row)) {
            world.refused++;
            return NONE;
        }
        world.column += side;
        return world.column;
    }

    private int runnerLeaps(int side, int runUp) {
        if (runUp > world.greatestRunUp(world.column, world.row, side)) {
            world.refused++;
            return NONE;
        }
        flight.fly(world, world.column, world.row, side, runUp);
        world.column = flight.column;
        world.row = flight.row;
        world.leaps++;
        if (flight.wallIsMet) {
            world.wallLeaps++;
        }
        return 100 * world.row + world.column;
    }

    private int doOrder() {
        switch (text.order) {
            case 'b':
                return buildOrBreak(text.column, text.row);
            case 'w':
                return runnerWalks(text.side);
            default:
                return runnerLeaps(text.side, text.runUp);
        }
    }

    // ---- numbers

    private int cellNumber(int column, int row, int what) {
        switch (what) {
            case 0:
                return world.isBlock(column, row) ? 1 : 0;
            case 1:
                return world.canStand(column, row) ? 1 : 0;
            case 2:
                return map.ledgeAt(column, row);
            case 3:
                return world.greatestRunUp(column, row, RIGHT);
            default:
                return world.greatestRunUp(column, row, LEFT);
        }
    }

    private int ledgeNumber(int ledge, int what) {
        switch (what) {
            case 0:
                return at(map.rows, ledge);
            case 1:
                return at(map.firstColumns, ledge);
            case 2:
                return at(map.lengths, ledge);
            case 3:
                return reaches.othersFrom(ledge, MOST_RUN_UP);
            case 4:
                return reaches.othersFrom(ledge, 0);
            default:
                return reaches.othersTo(ledge);
        }
    }

    private int countedNumber(int what) {
        switch (what) {
            case 0:
                return world.blockCount();
            case 1:
                return map.size;
            case 2:
                return world.column;
            case 3:
                return world.row;
            case 4:
                return runnersLedge();
            case 5:
                return world.leaps;
            case 6:
                return world.wallLeaps;
            case 7:
                return world.refused;
            case 8:
                return map.size - reachedLedges();
            default:
                return history.size;
        }
    }

    private int runnersLedge() {
        return map.ledgeAt(world.column, world.row);
    }

    private int arcNumber(int ticks, int what) {
        int rise = at(world.settings, RISE);
        int fall = at(world.settings, FALL);
        return ARC_BASE + (what == 0 ? heightByTicks(ticks, rise, fall) : heightAtOnce(ticks, rise, fall));
    }

    private static int heightByTicks(int ticks, int firstRise, int fall) {
        int height = 0;
        int rise = firstRise;
        for (int tick = 0; tick < ticks; tick++) {
            height += rise;
            rise = Math.max(rise - 1, -fall);
        }
        return height;
    }

    private static int heightAtOnce(int ticks, int firstRise, int fall) {
        int slowing = Math.min(ticks, firstRise + fall);
        return slowing * firstRise - slowing * (slowing - 1) / 2 - (ticks - slowing) * fall;
    }

    private int leapNumber(int column, int row, int side, int runUp, int what) {
        if (runUp > world.greatestRunUp(column, row, side)) {
            return NONE;
        }
        flight.fly(world, column, row, side, runUp);
        switch (what) {
            case 0:
                return flight.column;
            case 1:
                return flight.row;
            case 2:
                return flight.ticks;
            case 3:
                return flight.topRow;
            default:
                return flight.wallIsMet ? 1 : 0;
        }
    }

    // ---- how far the runner comes; the leaps are spread from there first

    private void spreadFromRunner() {
        routes.spreadFrom(reaches, runnersLedge(), 0);
        routes.spreadFrom(reaches, runnersLedge(), MOST_RUN_UP);
    }

    private boolean isReached(int ledge, int runUp) {
        return routes.leapsBySpreading(ledge, runUp) != NONE;
    }

    private int reachedLedges() {
        int reached = 0;
        for (int ledge = 0; ledge < map.size; ledge++) {
            if (isReached(ledge, MOST_RUN_UP)) {
                reached++;
            }
        }
        return reached;
    }

    private int onlyRunningLedge(int rank) {
        int before = 0;
        for (int ledge = 0; ledge < map.size; ledge++) {
            if (isReached(ledge, MOST_RUN_UP) && !isReached(ledge, 0)) {
                if (before == rank) {
                    return ledge;
                }
                before++;
            }
        }
        return NONE;
    }

    private double shareOfReached() {
        if (map.size <= 0) {
            return 0.0;
        }
        return (double) reachedLedges() / (double) map.size;
    }

    // ---- the digest

    private static long joined(long hash, long value) {
        return 31L * hash + value;
    }

    private long hashOfCounts(long begun) {
        long hash = begun;
        for (int what = 0; what < COUNTS; what++) {
            hash = joined(hash, countedNumber(what));
        }
        for (int setting = 0; setting < SETTINGS; setting++) {
            hash = joined(hash, at(world.settings, setting));
        }
        return hash;
    }

    private long hashOfCells(long begun) {
        long hash = begun;
        for (int row = 0; row < ROWS; row++) {
            for (int column = 0; column < COLUMNS; column++) {
                for (int what = 0; what <= 2; what++) {
                    hash = joined(hash, cellNumber(column, row, what));
                }
            }
        }
        return hash;
    }

    private long hashOfLedges(long begun) {
        long hash = begun;
        int from = runnersLedge();
        for (int ledge = 0; ledge < map.size; ledge++) {
            for (int what = 0; what < LEDGE_NUMBERS; what++) {
                hash = joined(hash, ledgeNumber(ledge, what));
            }
            hash = joined(hash, routes.leapsBySpreading(ledge, MOST_RUN_UP));
            hash = joined(hash, routes.leapsByTable(from, ledge));
        }
        return hash;
    }

    private long hashOfLeaps(long begun) {
        long hash = begun;
        for (int i = 0; i < 2; i++) {
            int side = i == 0 ? RIGHT : LEFT;
            for (int runUp = 0; runUp <= 1; runUp++) {
                for (int what = 0; what < LEAP_NUMBERS; what++) {
                    hash = joined(hash, leapNumber(world.column, world.row, side, runUp, what));
                }
            }
        }
        return hash;
    }

    private long hashOfTheRest(long begun) {
        long hash = joined(joined(begun, arcNumber(5, 0)), arcNumber(5, 1));
        for (int rank = 0; rank <= 2; rank++) {
            hash = joined(hash, onlyRunningLedge(rank));
        }
        hash = joined(hash, bitsOfShare(shareOfReached()));
        for (int slot = 0; slot < SLOTS; slot++) {
            hash = joined(hash, snapshots.has(slot) ? 1 : 0);
        }
        hash = joined(hash, text.length);
        for (int place = 0; place < text.length; place++) {
            hash = joined(hash, text.codeAt(place));
        }
        return hash;
    }

    /** Double.doubleToLongBits is not at hand; doubling and taking 1 away are exact for 0 to 1. */
    private static long bitsOfShare(double share) {
        if (!(share > 0.0)) {
            return 0L;
        }
        double doubled = share;
        long exponent = 1023L;
        for (int i = 0; i < 1000 && doubled < 1.0; i++) {
            doubled = doubled * 2.0;
            exponent--;
        }
        return (exponent << 52) + (long) ((doubled - 1.0) * 4503599627370496.0);
    }

    /** All that snapshots and saved states hold: level, settings, runner, and what is counted. */
    private static final class World {
        /** A number a row, a bit a column. */
        final int[] blocks = new int[ROWS];
        final int[] settings = {2, 3, 1};
        int column;
        int row;
        int leaps;
        int wallLeaps;
        int refused;

        void becomeLike(World other) {
            System.arraycopy(other.blocks, 0, blocks, 0, ROWS);
            System.arraycopy(other.settings, 0, settings, 0, SETTINGS);
            column = other.column;
            row = other.row;
            leaps = other.leaps;
            wallLeaps = other.wallLeaps;
            refused = other.refused;
        }

        boolean isBlock(int column, int row) {
            if (column < 0 || column >= COLUMNS || row < 0 || row >= blocks.length) {
                return true;
            }
            return (blocks[row] >> column & 1) == 1;
        }

        boolean canStand(int column, int row) {
            return !isBlock(column, row) && isBlock(column, row - 1);
        }

        int greatestRunUp(int column, int row, int side) {
            if (!canStand(column, row)) {
                return NONE;
            }
            int cells = 0;
            for (int i = 1; i <= MOST_RUN_UP && canStand(column - i * side, row); i++) {
                cells = i;
            }
            return cells;
        }

        int blockCount() {
            int count = 0;
            for (int row : blocks) {
                count += Integer.bitCount(row);
            }
            return count;
        }

        void turnBlock(int column, int row) {
            if (row >= 0 && row < blocks.length) {
                blocks[row] ^= 1 << column;
            }
        }

        void letRunnerFall() {
            for (int i = 0; i < ROWS && !canStand(column, row); i++) {
                row--;
            }
        }
    }

    /** One leap from its beginning to its end, used again for each. */
    private static final class Flight {
        int column;
        int row;
        int ticks;
        int topRow;
        boolean wallIsMet;
        private int speed;
        private int rise;

        void fly(World world, int fromColumn, int fromRow, int side, int runUp) {
            column = fromColumn;
            row = fromRow;
            topRow = fromRow;
            wallIsMet = false;
            speed = runUp + 1;
            rise = at(world.settings, RISE);
            ticks = 0;
            boolean ended = false;
            while (ticks < FLIGHT_BOUND && !ended) {
                ticks++;
                stepAside(world, side);
                if (rise > 0) {
                    stepUp(world);
                } else {
                    ended = endsSteppingDown(world);
                }
                topRow = Math.max(topRow, row);
                rise = Math.max(rise - 1, -at(world.settings, FALL));
            }
        }

        private void stepAside(World world, int side) {
            for (int i = 0; i < speed; i++) {
                if (world.isBlock(column + side, row)) {
                    speed = 0;
                    wallIsMet = true;
                    return;
                }
                column += side;
            }
        }

        private void stepUp(World world) {
            for (int i = 0; i < rise; i++) {
                if (world.isBlock(column, row + 1)) {
                    rise = 0;
                    return;
                }
                row++;
            }
        }

        private boolean endsSteppingDown(World world) {
            int steps = wallIsMet ? Math.min(-rise, at(world.settings, SLIDE)) : -rise;
            for (int i = 0; i < steps; i++) {
                if (world.isBlock(column, row - 1)) {
                    return true;
                }
                row--;
            }
            return false;
        }
    }

    /** The ledges of a level, by their numbers. */
    private static final class LedgeMap {
        final int[] rows = new int[MOST_LEDGES];
        final int[] firstColumns = new int[MOST_LEDGES];
        final int[] lengths = new int[MOST_LEDGES];
        int size;
        private final int[] ledgesOfCells = new int[CELLS];

        void draw(World world) {
            size = 0;
            for (int row = 0; row < ROWS; row++) {
                for (int column = 0; column < COLUMNS; column++) {
                    if (world.canStand(column, row)) {
                        addCell(column, row, world.canStand(column - 1, row));
                    } else {
                        store(ledgesOfCells, row * COLUMNS + column, NONE);
                    }
                }
            }
        }

        private void addCell(int column, int row, boolean goesOn) {
            if (!goesOn) {
                store(rows, size, row);
                store(firstColumns, size, column);
                store(lengths, size, 0);
                size++;
            }
            int ledge = size - 1;
            store(lengths, ledge, at(lengths, ledge) + 1);
            store(ledgesOfCells, row * COLUMNS + column, ledge);
        }

        boolean has(int ledge) {
            return ledge >= 0 && ledge < size;
        }

        int ledgeAt(int column, int row) {
            return isCell(column, row) ? at(ledgesOfCells, row * COLUMNS + column) : NONE;
        }
    }

    /** From which ledge one leap comes to which, and the least run-up of those that do. */
    private static final class Reaches {
        int size;
        private final int[] leastRunUps = new int[MOST_LEDGES * MOST_LEDGES];
        private final Flight flight = new Flight();

        void find(World world, LedgeMap map) {
            size = map.size;
            Arrays.fill(leastRunUps, NONE);
            for (int row = 0; row < ROWS; row++) {
                for (int column = 0; column < COLUMNS; column++) {
                    addLeaps(world, map, column, row, RIGHT);
                    addLeaps(world, map, column, row, LEFT);
                }
            }
        }

        private void addLeaps(World world, LedgeMap map, int column, int row, int side) {
            int from = map.ledgeAt(column, row);
            int greatest = world.greatestRunUp(column, row, side);
            for (int runUp = 0; runUp <= greatest; runUp++) {
                flight.fly(world, column, row, side, runUp);
                int place = from * MOST_LEDGES + map.ledgeAt(flight.column, flight.row);
                int known = at(leastRunUps, place);
                if (known == NONE || runUp < known) {
                    store(leastRunUps, place, runUp);
                }
            }
        }

        int leastRunUp(int from, int to) {
            return at(leastRunUps, from * MOST_LEDGES + to);
        }

        boolean come(int from, int to, int runUp) {
            int least = leastRunUp(from, to);
            return least != NONE && least <= runUp;
        }

        int othersFrom(int ledge, int runUp) {
            int others = 0;
            for (int to = 0; to < size; to++) {
                if (to != ledge && come(ledge, to, runUp)) {
                    others++;
                }
            }
            return others;
        }

        int othersTo(int ledge) {
            int others = 0;
            for (int from = 0; from < size; from++) {
                if (from != ledge && come(from, ledge, MOST_RUN_UP)) {
                    others++;
                }
            }
            return others;
        }
    }

    /** The fewest leaps, found in two ways; the latest finds are kept, as many calls ask for the same. */
    private static final class Routes {
        /** For each run-up: the ledge that was spread from, and the leaps to each ledge. */
        private final int[] origins = new int[MOST_RUN_UP + 1];
        private final int[] spread = new int[(MOST_RUN_UP + 1) * MOST_LEDGES];
        private final int[] queue = new int[MOST_LEDGES];
        private final int[] table = new int[MOST_LEDGES * MOST_LEDGES];
        private int runUpOfTable;

        void forget() {
            Arrays.fill(origins, NONE);
            runUpOfTable = NONE;
        }

        void spreadFrom(Reaches reaches, int origin, int runUp) {
            if (at(origins, runUp) == origin) {
                return;
            }
            store(origins, runUp, origin);
            beginSpread(origin, runUp);
            int base = runUp * MOST_LEDGES;
            int queued = 1;
            for (int i = 0; i < queued && i < MOST_LEDGES; i++) {
                int ledge = at(queue, i);
                int leaps = at(spread, base + ledge) + 1;
                for (int next = 0; next < reaches.size; next++) {
                    if (at(spread, base + next) == NONE && reaches.come(ledge, next, runUp)) {
                        store(spread, base + next, leaps);
                        store(queue, queued, next);
                        queued++;
                    }
                }
            }
        }

        private void beginSpread(int origin, int runUp) {
            int base = runUp * MOST_LEDGES;
            for (int ledge = 0; ledge < MOST_LEDGES; ledge++) {
                store(spread, base + ledge, NONE);
            }
            store(spread, base + origin, 0);
            store(queue, 0, origin);
        }

        int leapsBySpreading(int to, int runUp) {
            return at(spread, runUp * MOST_LEDGES + to);
        }

        void makeTable(Reaches reaches, int runUp) {
            if (runUpOfTable == runUp) {
                return;
            }
            runUpOfTable = runUp;
            beginTable(reaches, runUp);
            for (int between = 0; between < reaches.size; between++) {
                allowBetween(between, reaches.size);
            }
        }

        int leapsByTable(int from, int to) {
            return at(table, from * MOST_LEDGES + to);
        }

        private void beginTable(Reaches reaches, int runUp) {
            for (int from = 0; from < reaches.size; from++) {
                for (int to = 0; to < reaches.size; to++) {
                    int leaps = reaches.come(from, to, runUp) ? 1 : NONE;
                    store(table, from * MOST_LEDGES + to, from == to ? 0 : leaps);
                }
            }
        }

        private void allowBetween(int between, int size) {
            for (int from = 0; from < size; from++) {
                int first = at(table, from * MOST_LEDGES + between);
                for (int to = 0; to < size && first != NONE; to++) {
                    int second = at(table, between * MOST_LEDGES + to);
                    int known = at(table, from * MOST_LEDGES + to);
                    if (second != NONE && (known == NONE || first + second < known)) {
                        store(table, from * MOST_LEDGES + to, first + second);
                    }
                }
            }
        }
    }

    /** The saved states, the oldest first. */
    private static final class History {
        int size;
        private final World[] saved = new World[MOST_SAVED];

        History() {
            for (int i = 0; i < MOST_SAVED; i++) {
                saved[i] = new World();
            }
        }

        void save(World world) {
            if (size >= MOST_SAVED) {
                dropOldest();
            }
            World place = size >= 0 && size < MOST_SAVED ? saved[size] : null;
            if (place != null) {
                place.becomeLike(world);
                size++;
            }
        }

        /** The dropped one is filled again as the next to be saved. */
        private void dropOldest() {
            World dropped = saved[0];
            for (int i = 1; i < MOST_SAVED; i++) {
                saved[i - 1] = saved[i];
            }
            saved[MOST_SAVED - 1] = dropped;
            size = MOST_SAVED - 1;
        }

        void restoreLatest(World world) {
            World latest = size > 0 && size <= MOST_SAVED ? saved[size - 1] : null;
            if (latest != null) {
                world.becomeLike(latest);
                size--;
            }
        }
    }

    /** The slots. */
    private static final class Snapshots {
        private final World[] kept = new World[SLOTS];
        private final boolean[] taken = new boolean[SLOTS];

        Snapshots() {
            for (int i = 0; i < SLOTS; i++) {
                kept[i] = new World();
            }
        }

        boolean has(int slot) {
            return isSlot(slot) && taken[slot];
        }

        void take(int slot, World world) {
            World place = isSlot(slot) ? kept[slot] : null;
            if (place != null) {
                place.becomeLike(world);
                taken[slot] = true;
            }
        }

        void giveBack(int slot, World world) {
            World snapshot = has(slot) ? kept[slot] : null;
            if (snapshot != null) {
                world.becomeLike(snapshot);
            }
        }
    }

    /** The buffer, how far it can be the beginning of orders, and a reader of its orders. */
    private static final class OrderText {
        private static final int WRONG = -1;
        private static final int AT_ORDER = 0;
        private static final int AT_COLUMN = 1;
        private static final int BEHIND_ONE = 2;
        private static final int AT_COMMA = 3;
        private static final int AT_ROW = 4;
        private static final int AT_WALK_SIDE = 5;
        private static final int AT_LEAP_SIDE = 6;
        private static final int AT_RUN_UP = 7;
        private static final int BEHIND_ORDER = 8;

        int length;
        int order;
        int column;
        int row;
        int side;
        int runUp;
        private final int[] codes = new int[MOST_CODES];
        private int expected = AT_ORDER;
        private int wrongPlace;
        private int place;

        boolean isFull() {
            return length >= MOST_CODES;
        }

        void add(int code) {
            if (expected != WRONG) {
                wrongPlace = length;
                expected = expectedBehind(expected, code);
            }
            store(codes, length, code);
            length++;
        }

        void empty() {
            length = 0;
            expected = AT_ORDER;
        }

        int codeAt(int index) {
            return at(codes, index);
        }

        int errorPlace() {
            return expected == WRONG ? wrongPlace : length;
        }

        boolean tellsOrders() {
            return expected == BEHIND_ORDER;
        }

        private static int expectedBehind(int expected, int code) {
            switch (expected) {
                case AT_ORDER:
                    return expectedBehindKind(code);
                case AT_COLUMN:
                    return code == '1' ? BEHIND_ONE : isDigit(code) ? AT_COMMA : WRONG;
                case BEHIND_ONE:
                    return code == ',' ? AT_ROW : isDigit(code) ? AT_COMMA : WRONG;
                case AT_COMMA:
                    return code == ',' ? AT_ROW : WRONG;
                case AT_ROW:
                    return isDigit(code) ? BEHIND_ORDER : WRONG;
                case AT_WALK_SIDE:
                    return isSign(code) ? BEHIND_ORDER : WRONG;
                case AT_LEAP_SIDE:
                    return isSign(code) ? AT_RUN_UP : WRONG;
                case AT_RUN_UP:
                    return isRunUp(code - '0') ? BEHIND_ORDER : WRONG;
                default:
                    return expected == BEHIND_ORDER && code == ';' ? AT_ORDER : WRONG;
            }
        }

        private static int expectedBehindKind(int code) {
            switch (code) {
                case 'b':
                    return AT_COLUMN;
                case 'w':
                    return AT_WALK_SIDE;
                case 'l':
                    return AT_LEAP_SIDE;
                default:
                    return WRONG;
            }
        }

        private static boolean isDigit(int code) {
            return code >= '0' && code <= '9';
        }

        private static boolean isSign(int code) {
            return code == '+' || code == '-';
        }

        void rewind() {
            place = 0;
        }

        boolean hasMore() {
            return place < length;
        }

        /** Only for a text that tells orders: each sign is where it is due. */
        void readOrder() {
            order = nextCode();
            if (order == 'b') {
                column = nextNumber();
                nextCode();
                row = nextNumber();
            } else {
                side = nextCode() == '+' ? RIGHT : LEFT;
                runUp = order == 'l' ? nextNumber() : 0;
            }
            nextCode();
        }

        private int nextCode() {
            place++;
            return at(codes, place - 1);
        }

        /** No number has more than two figures. */
        private int nextNumber() {
            int number = 0;
            for (int i = 0; i < 2 && place < length && isDigit(at(codes, place)); i++) {
                number = 10 * number + nextCode() - '0';
            }
            return number;
        }
    }
}
