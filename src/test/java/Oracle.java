import java.util.ArrayDeque;
import java.util.ArrayList;
import java.util.HashMap;
import java.util.List;
import java.util.Map;
import java.util.TreeSet;
import java.util.regex.Matcher;
import java.util.regex.Pattern;

/** The document again: slow, with nothing kept but the state, and by other means where there are others. */
final class Oracle {
    private static final Pattern ORDERS = Pattern.compile(ordersWith("b(1?[0-9]),[0-9]|w[+-]|l[+-][0-3]"));

    private static final class State {
        final boolean[] blocks = new boolean[200];
        final int[] settings = {2, 3, 1};
        int column;
        int row;
        int leaps;
        int wallLeaps;
        int refused;

        State copy() {
            State copy = new State();
            System.arraycopy(blocks, 0, copy.blocks, 0, 200);
            System.arraycopy(settings, 0, copy.settings, 0, 3);
            copy.column = column;
            copy.row = row;
            copy.leaps = leaps;
            copy.wallLeaps = wallLeaps;
            copy.refused = refused;
            return copy;
        }
    }

    private State now = new State();
    private final ArrayDeque<State> saved = new ArrayDeque<>();
    private final State[] slots = new State[2];
    private String buffer = "";

    private static String ordersWith(String order) {
        return "(" + order + ")(;(" + order + "))*";
    }

    // ---- the level

    private static void needIndex(boolean holds) {
        if (!holds) {
            throw new IndexOutOfBoundsException();
        }
    }

    private static void needArgument(boolean holds) {
        if (!holds) {
            throw new IllegalArgumentException();
        }
    }

    private static void needState(boolean holds) {
        if (!holds) {
            throw new IllegalStateException();
        }
    }

    private static boolean in(int value, int least, int greatest) {
        return value >= least && value <= greatest;
    }

    private static void needCell(int column, int row) {
        needIndex(in(column, 0, 19) && in(row, 0, 9));
    }

    private boolean block(int column, int row) {
        return !in(column, 0, 19) || !in(row, 0, 9) || now.blocks[row * 20 + column];
    }

    private int blocks() {
        int count = 0;
        for (boolean block : now.blocks) {
            count += block ? 1 : 0;
        }
        return count;
    }

    private boolean stand(int column, int row) {
        return !block(column, row) && block(column, row - 1);
    }

    /** Each ledge as its row, its first column and the column behind it. */
    private List<int[]> ledges() {
        List<int[]> found = new ArrayList<>();
        for (int row = 0; row < 10; row++) {
            int column = 0;
            while (column < 20) {
                int behind = column;
                while (stand(behind, row)) {
                    behind++;
                }
                if (behind > column) {
                    found.add(new int[] {row, column, behind});
                }
                column = behind + 1;
            }
        }
        return found;
    }

    private int ledge(int column, int row) {
        return ledge(ledges(), column, row);
    }

    private static int ledge(List<int[]> all, int column, int row) {
        for (int i = 0; i < all.size(); i++) {
            int[] one = all.get(i);
            if (one[0] == row && in(column, one[1], one[2] - 1)) {
                return i;
            }
        }
        return -1;
    }

    /** Column, row, ticks, greatest row and wall; null if the leap is not possible. */
    private int[] flight(int fromColumn, int fromRow, int side, int runUp) {
        for (int i = 0; i <= runUp; i++) {
            if (!stand(fromColumn - side * i, fromRow)) {
                return null;
            }
        }
        int c = fromColumn;
        int r = fromRow;
        int top = fromRow;
        int speed = runUp + 1;
        int rise = now.settings[0];
        boolean wall = false;
        for (int tick = 1;; tick++) {
            int aside = speed;
            while (aside > 0) {
                if (block(c + side, r)) {
                    wall = true;
                    speed = 0;
                    aside = 0;
                } else {
                    c += side;
                    aside--;
                }
            }
            if (rise > 0) {
                int up = rise;
                while (up > 0) {
                    if (block(c, r + 1)) {
                        up = 0;
                        rise = 0;
                    } else {
                        r++;
                        up--;
                    }
                }
                top = Math.max(top, r);
            }
            if (rise < 0) {
                int down = -rise;
                if (wall && down > now.settings[2]) {
                    down = now.settings[2];
                }
                while (down > 0) {
                    if (block(c, r - 1)) {
                        return new int[] {c, r, tick, top, wall ? 1 : 0};
                    }
                    r--;
                    down--;
                }
            }
            rise--;
            if (rise < -now.settings[1]) {
                rise = -now.settings[1];
            }
        }
    }

    // ---- what is undoable

    private void save() {
        saved.addLast(now.copy());
        if (saved.size() > 6) {
            saved.removeFirst();
        }
    }

    private int refuse() {
        now.refused++;
        return -1;
    }

    private int doBuild(int column, int row) {
        if (now.column == column && now.row == row) {
            return refuse();
        }
        int cell = row * 20 + column;
        now.blocks[cell] = !now.blocks[cell];
        while (!block(now.column, now.row - 1)) {
            now.row--;
        }
        return now.blocks[cell] ? 1 : 0;
    }

    private int doWalk(int side) {
        if (!stand(now.column + side, now.row)) {
            return refuse();
        }
        now.column += side;
        return now.column;
    }

    private int doLeap(int side, int runUp) {
        int[] flight = flight(now.column, now.row, side, runUp);
        if (flight == null) {
            return refuse();
        }
        now.column = flight[0];
        now.row = flight[1];
        now.leaps++;
        now.wallLeaps += flight[4];
        return now.row * 100 + now.column;
    }

    int build(int column, int row) {
        needCell(column, row);
        save();
        return doBuild(column, row);
    }

    int set(int setting, int value) {
        needIndex(in(setting, 0, 2));
        needArgument(in(value, 1, setting == 0 ? 4 : 5));
        save();
        int previous = now.settings[setting];
        now.settings[setting] = value;
        return previous;
    }

    int walk(int side) {
        needArgument(side == 1 || side == -1);
        save();
        return doWalk(side);
    }

    int leap(int side, int runUp) {
        needArgument(side == 1 || side == -1);
        needArgument(in(runUp, 0, 3));
        save();
        return doLeap(side, runUp);
    }

    int put(int column, int row) {
        needCell(column, row);
        save();
        if (!stand(column, row)) {
            return refuse();
        }
        now.column = column;
        now.row = row;
        return ledge(column, row);
    }

    int append(int code) {
        needArgument(in(code, 33, 126));
        needState(buffer.length() < 60);
        buffer += (char) code;
        return buffer.length();
    }

    int clearBuffer() {
        int length = buffer.length();
        buffer = "";
        return length;
    }

    int firstError() {
        for (int i = 1; i <= buffer.length(); i++) {
            Matcher matcher = ORDERS.matcher(buffer.substring(0, i));
            if (!matcher.matches() && !matcher.hitEnd()) {
                return i - 1;
            }
        }
        return buffer.length();
    }

    int run() {
        needArgument(ORDERS.matcher(buffer).matches());
        save();
        int done = 0;
        for (String order : buffer.split(";")) {
            int side = order.charAt(1) == '+' ? 1 : -1;
            int answer;
            if (order.charAt(0) == 'b') {
                String[] cell = order.substring(1).split(",");
                answer = doBuild(Integer.parseInt(cell[0]), Integer.parseInt(cell[1]));
            } else if (order.charAt(0) == 'w') {
                answer = doWalk(side);
            } else {
                answer = doLeap(side, order.charAt(2) - '0');
            }
            if (answer == -1) {
                break;
            }
            done++;
        }
        buffer = "";
        return done;
    }

    int keep(int slot) {
        needArgument(in(slot, 0, 1));
        slots[slot] = now.copy();
        return blocks();
    }

    int goBack(int slot) {
        needArgument(in(slot, 0, 1));
        needState(slots[slot] != null);
        save();
        now = slots[slot].copy();
        return blocks();
    }

    int undo() {
        needState(!saved.isEmpty());
        now = saved.removeLast();
        return saved.size();
    }

    // ---- looks

    private int greatestRunUp(int column, int row, int side) {
        for (int runUp = 3; runUp >= 0; runUp--) {
            if (flight(column, row, side, runUp) != null) {
                return runUp;
            }
        }
        return -1;
    }

    int cellOf(int column, int row, int what) {
        needCell(column, row);
        needArgument(in(what, 0, 4));
        return switch (what) {
            case 0 -> block(column, row) ? 1 : 0;
            case 1 -> stand(column, row) ? 1 : 0;
            case 2 -> ledge(column, row);
            case 3 -> greatestRunUp(column, row, 1);
            default -> greatestRunUp(column, row, -1);
        };
    }

    /** The ledges to which one leap with at most this run-up comes. */
    private TreeSet<Integer> oneLeapFrom(int from, int runUp) {
        TreeSet<Integer> reached = new TreeSet<>();
        List<int[]> all = ledges();
        int[] one = all.get(from);
        for (int column = one[1]; column < one[2]; column++) {
            for (int k = 0; k <= runUp; k++) {
                for (int side = -1; side <= 1; side += 2) {
                    int[] end = flight(column, one[0], side, k);
                    if (end != null) {
                        reached.add(ledge(all, end[0], end[1]));
                    }
                }
            }
        }
        return reached;
    }

    private int others(int ledge, TreeSet<Integer> reached) {
        return reached.size() - (reached.contains(ledge) ? 1 : 0);
    }

    int ledgeOf(int ledge, int what) {
        List<int[]> all = ledges();
        needIndex(in(ledge, 0, all.size() - 1));
        needArgument(in(what, 0, 5));
        int[] one = all.get(ledge);
        switch (what) {
            case 0:
                return one[0];
            case 1:
                return one[1];
            case 2:
                return one[2] - one[1];
            case 3:
                return others(ledge, oneLeapFrom(ledge, 3));
            case 4:
                return others(ledge, oneLeapFrom(ledge, 0));
            default:
                int from = 0;
                for (int other = 0; other < all.size(); other++) {
                    if (other != ledge && oneLeapFrom(other, 3).contains(ledge)) {
                        from++;
                    }
                }
                return from;
        }
    }

    private Map<Integer, Integer> distances(int from, int runUp) {
        Map<Integer, Integer> leaps = new HashMap<>();
        TreeSet<Integer> border = new TreeSet<>();
        border.add(from);
        for (int distance = 0; !border.isEmpty(); distance++) {
            TreeSet<Integer> next = new TreeSet<>();
            for (int ledge : border) {
                leaps.put(ledge, distance);
            }
            for (int ledge : border) {
                next.addAll(oneLeapFrom(ledge, runUp));
            }
            next.removeAll(leaps.keySet());
            border = next;
        }
        return leaps;
    }

    int count(int what) {
        needArgument(in(what, 0, 9));
        return switch (what) {
            case 0 -> blocks();
            case 1 -> ledges().size();
            case 2 -> now.column;
            case 3 -> now.row;
            case 4 -> ledge(now.column, now.row);
            case 5 -> now.leaps;
            case 6 -> now.wallLeaps;
            case 7 -> now.refused;
            case 8 -> ledges().size() - distances(ledge(now.column, now.row), 3).size();
            default -> saved.size();
        };
    }

    int setting(int setting) {
        needIndex(in(setting, 0, 2));
        return now.settings[setting];
    }

    // ---- what would be

    int arc(int ticks, int what) {
        needArgument(in(ticks, 0, 30));
        needArgument(in(what, 0, 1));
        int height = 200;
        for (int tick = 0; tick < ticks; tick++) {
            height += Math.max(now.settings[0] - tick, -now.settings[1]);
        }
        return height;
    }

    int ifLeapt(int column, int row, int side, int runUp, int what) {
        needCell(column, row);
        needArgument(side == 1 || side == -1);
        needArgument(in(runUp, 0, 3));
        needArgument(in(what, 0, 4));
        int[] flight = flight(column, row, side, runUp);
        return flight == null ? -1 : flight[what];
    }

    int slowest(int from, int to) {
        int size = ledges().size();
        needIndex(in(from, 0, size - 1) && in(to, 0, size - 1));
        for (int runUp = 0; runUp <= 3; runUp++) {
            if (oneLeapFrom(from, runUp).contains(to)) {
                return runUp;
            }
        }
        return -1;
    }

    int fewest(int from, int to, int runUp, int what) {
        int size = ledges().size();
        needIndex(in(from, 0, size - 1) && in(to, 0, size - 1));
        needArgument(in(runUp, 0, 3));
        needArgument(in(what, 0, 1));
        return distances(from, runUp).getOrDefault(to, -1);
    }

    int onlyRunning(int rank) {
        needArgument(rank >= 0);
        int from = ledge(now.column, now.row);
        TreeSet<Integer> running = new TreeSet<>(distances(from, 3).keySet());
        running.removeAll(distances(from, 0).keySet());
        List<Integer> sorted = new ArrayList<>(running);
        return rank < sorted.size() ? sorted.get(rank) : -1;
    }

    double reachShare() {
        return (double) distances(ledge(now.column, now.row), 3).size() / ledges().size();
    }

    long digest() {
        List<Long> values = new ArrayList<>();
        for (int what = 0; what <= 9; what++) {
            values.add((long) count(what));
        }
        for (int setting = 0; setting <= 2; setting++) {
            values.add((long) setting(setting));
        }
        for (int row = 0; row < 10; row++) {
            for (int column = 0; column < 20; column++) {
                for (int what = 0; what <= 2; what++) {
                    values.add((long) cellOf(column, row, what));
                }
            }
        }
        Map<Integer, Integer> leaps = distances(count(4), 3);
        for (int ledge = 0; ledge < ledges().size(); ledge++) {
            for (int what = 0; what <= 5; what++) {
                values.add((long) ledgeOf(ledge, what));
            }
            values.add((long) leaps.getOrDefault(ledge, -1));
            values.add((long) leaps.getOrDefault(ledge, -1));
        }
        for (int side : new int[] {1, -1}) {
            for (int runUp = 0; runUp <= 1; runUp++) {
                for (int what = 0; what <= 4; what++) {
                    values.add((long) ifLeapt(now.column, now.row, side, runUp, what));
                }
            }
        }
        values.add((long) arc(5, 0));
        values.add((long) arc(5, 1));
        for (int rank = 0; rank <= 2; rank++) {
            values.add((long) onlyRunning(rank));
        }
        values.add(Double.doubleToLongBits(reachShare()));
        for (State slot : slots) {
            values.add(slot == null ? 0L : 1L);
        }
        values.add((long) buffer.length());
        for (char c : buffer.toCharArray()) {
            values.add((long) c);
        }
        long hash = 3511;
        for (long value : values) {
            hash = 31 * hash + value;
        }
        return hash;
    }
}
