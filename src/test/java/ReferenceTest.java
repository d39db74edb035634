import java.lang.reflect.InvocationTargetException;
import java.lang.reflect.Method;
import java.util.ArrayDeque;
import java.util.ArrayList;
import java.util.Arrays;
import java.util.HashMap;
import java.util.List;
import java.util.Map;
import java.util.Random;

/** Long runs of calls, each answer compared with those of a slow model written from the document alone. */
public final class ReferenceTest {
    private static final int RUNS = 120;
    private static final int CALLS = 512;

    public static void main(String[] args) {
        for (int run = 0; run < RUNS; run++) {
            compareRun(run);
        }
        System.out.println(RUNS + " runs of " + CALLS + " calls agree with the model");
    }

    private static void compareRun(int run) {
        Random random = new Random(7919L * run + 3);
        BottlePyramid real = new BottlePyramid();
        Model model = new Model();
        List<String> told = new ArrayList<>();
        int calls = 0;
        while (calls + 2 <= CALLS) {
            for (Call call : nextCalls(random)) {
                if (calls + 2 > CALLS) {
                    break;
                }
                String want = call.on(model);
                String got = call.on(real);
                calls++;
                told.add(call.told() + " -> " + got);
                if (!got.equals(want)) {
                    fail(run, told, want);
                }
            }
            String want = String.valueOf(model.digest());
            String got = String.valueOf(real.digest());
            calls++;
            told.add("digest() -> " + got);
            if (!got.equals(want)) {
                fail(run, told, want);
            }
        }
    }

    private static void fail(int run, List<String> told, String want) {
        System.out.println("run " + run + ":");
        told.forEach(line -> System.out.println("  " + line));
        System.out.println("  the model answers " + want);
        System.exit(1);
    }

    private static List<Call> nextCalls(Random random) {
        int kind = random.nextInt(100);
        int near = random.nextInt(7) - 1;
        int far = random.nextInt(8) - 1;
        if (kind < 22) return List.of(new Call("take", near, 1 + random.nextInt(3)));
        if (kind < 24) return List.of(new Call("take", near, far));
        if (kind < 27) return List.of(new Call("turn", random.nextInt(4) - 1, 0));
        if (kind < 33) return List.of(new Call("knock", near, far));
        if (kind < 47) return List.of(new Call("put", near, far));
        if (kind < 50) return List.of(new Call("mirror", 0, 0));
        if (kind < 52) return List.of(new Call("refill", 0, 0));
        if (kind < 57) return List.of(new Call("set", random.nextInt(5) - 1, random.nextInt(6) - 1));
        if (kind < 58) return List.of(new Call("append", 31 + random.nextInt(98), 0));
        if (kind < 68) return appends(random);
        if (kind < 69) return List.of(new Call("clearBuffer", 0, 0));
        if (kind < 71) return List.of(new Call("firstError", 0, 0));
        if (kind < 77) return List.of(new Call("firstError", 0, 0), new Call("obey", 0, 0));
        if (kind < 79) return List.of(new Call("keep", 0, 0));
        if (kind < 81) return List.of(new Call("goBack", 0, 0));
        if (kind < 85) return List.of(new Call("undo", 0, 0));
        if (kind < 86) return List.of(new Call("undo", 0, 0), new Call("undo", 0, 0), new Call("undo", 0, 0));
        if (kind < 88) return List.of(new Call("row", near, far));
        if (kind < 90) return List.of(new Call("count", random.nextInt(12) - 1, 0));
        if (kind < 91) return List.of(new Call("setting", random.nextInt(5) - 1, 0));
        if (kind < 93) return List.of(new Call("why", near, far));
        if (kind < 95) return List.of(new Call("falls", near, far));
        if (kind < 96) return List.of(new Call("wins", random.nextInt(4) - 1, 0), new Call("best", 0, 0));
        if (kind < 97) return List.of(new Call("length", random.nextInt(4) - 1, 0));
        if (kind < 98) return List.of(new Call("pyramids", random.nextInt(6) - 1, 0));
        if (kind < 99) return List.of(new Call("brokenShare", 0, 0));
        return List.of(new Call("wonShare", 0, 0));
    }

    /** Some orders as a text, now and then with a wrong character in them or cut off. */
    private static List<Call> appends(Random random) {
        StringBuilder text = new StringBuilder();
        int parts = 1 + random.nextInt(4);
        for (int i = 0; i < parts; i++) {
            text.append(i == 0 && random.nextInt(6) > 0 ? "" : ";");
            text.append(Model.PARTS.get(random.nextInt(Model.PARTS.size())));
        }
        if (random.nextInt(5) == 0) {
            text.setCharAt(random.nextInt(text.length()), "tkpmr;012345TM/:".charAt(random.nextInt(16)));
        }
        if (random.nextInt(6) == 0) {
            text.setLength(random.nextInt(text.length()));
        }
        List<Call> calls = new ArrayList<>();
        text.chars().forEach(code -> calls.add(new Call("append", code, 0)));
        return calls;
    }

    private record Call(String name, int a, int b) {
        String told() {
            return name + "(" + a + ", " + b + ")";
        }

        /** The class and the model have methods of the same names, so one call serves both. */
        String on(Object x) {
            for (Method method : x.getClass().getDeclaredMethods()) {
                if (method.getName().equals(name)) {
                    return answer(method, x);
                }
            }
            throw new AssertionError("there is no method " + name);
        }

        private String answer(Method method, Object x) {
            Object[] arguments = Arrays.copyOf(new Object[] {a, b}, method.getParameterCount());
            try {
                return String.valueOf(method.invoke(x, arguments));
            } catch (InvocationTargetException e) {
                return e.getCause().getClass().getSimpleName();
            } catch (IllegalAccessException e) {
                throw new AssertionError(e);
            }
        }
    }
}

/** A heap of bottles as sets of "row,place" in plain grids; no masks but where the document names them. */
final class Grid {
    final boolean[][] at = new boolean[5][5];

    static Grid of(int mask) {
        Grid grid = new Grid();
        int bit = 0;
        for (int row = 0; row < 5; row++) {
            for (int place = 0; place < 5 - row; place++) {
                grid.at[row][place] = (mask >> bit & 1) == 1;
                bit++;
            }
        }
        return grid;
    }

    int mask() {
        int mask = 0;
        int worth = 1;
        for (int row = 0; row < 5; row++) {
            for (int place = 0; place < 5 - row; place++) {
                mask += at[row][place] ? worth : 0;
                worth *= 2;
            }
        }
        return mask;
    }

    boolean rests(int row, int place) {
        return row == 0 || at[row - 1][place] && at[row - 1][place + 1];
    }

    /** How many fell of each row. */
    int[] fall() {
        int[] fallen = new int[5];
        for (int row = 1; row < 5; row++) {
            for (int place = 0; place < 5 - row; place++) {
                if (at[row][place] && !rests(row, place)) {
                    at[row][place] = false;
                    fallen[row]++;
                }
            }
        }
        return fallen;
    }

    List<Integer> places(int row) {
        List<Integer> places = new ArrayList<>();
        for (int place = 0; place < 5 - row; place++) {
            if (at[row][place]) {
                places.add(place);
            }
        }
        return places;
    }

    void rob(int thief, int row, int bottles) {
        List<Integer> places = places(row);
        int from = thief == 0 ? 0 : places.size() - bottles;
        for (int place : places.subList(from, from + bottles)) {
            at[row][place] = false;
        }
    }
}

/** The document's promises in their slowest form. */
final class Model {
    static final List<String> PARTS = parts();
    private static final Map<String, int[]> PLAYED = new HashMap<>();
    private static final Map<String, Integer> COUNTED = new HashMap<>();

    private static final class State {
        int mask = 32767;
        int thief = 0;
        int thefts = 0;
        int[] settings = {1, 0, 0};
        int[] takenFrom = new int[5];
        int[] brokenOf = new int[5];
        int[] takenBy = new int[2];

        State copy() {
            State copy = new State();
            copy.mask = mask;
            copy.thief = thief;
            copy.thefts = thefts;
            copy.settings = settings.clone();
            copy.takenFrom = takenFrom.clone();
            copy.brokenOf = brokenOf.clone();
            copy.takenBy = takenBy.clone();
            return copy;
        }
    }

    private State now = new State();
    private State snapshot = null;
    private final ArrayDeque<State> saved = new ArrayDeque<>();
    private String buffer = "";

    private static List<String> parts() {
        List<String> parts = new ArrayList<>(List.of("m", "r"));
        for (int row = 0; row <= 4; row++) {
            for (int bottles = 1; bottles <= 3; bottles++) {
                parts.add("t" + row + bottles);
            }
            for (int place = 0; place <= 4 - row; place++) {
                parts.add("k" + row + place);
                parts.add("p" + row + place);
            }
        }
        return parts;
    }

    private void save(State before) {
        saved.addLast(before);
        if (saved.size() > 6) {
            saved.removeFirst();
        }
    }

    private static void refuse(boolean wrong, RuntimeException e) {
        if (wrong) {
            throw e;
        }
    }

    private static void needRow(int row) {
        refuse(row < 0 || row > 4, new IndexOutOfBoundsException());
    }

    private static void needPlace(int row, int place) {
        needRow(row);
        refuse(place < 0 || place > 4 - row, new IndexOutOfBoundsException());
    }

    private static void need(int value, int low, int high) {
        refuse(value < low || value > high, new IllegalArgumentException());
    }

    int take(int row, int bottles) {
        needRow(row);
        need(bottles, 1, now.settings[0]);
        refuse(why(row, bottles) != 0, new IllegalStateException());
        save(now.copy());
        Grid grid = Grid.of(now.mask);
        grid.rob(now.thief, row, bottles);
        now.takenFrom[row] += bottles;
        now.takenBy[now.thief] += bottles;
        now.thefts++;
        now.thief = 1 - now.thief;
        return drop(grid);
    }

    private int drop(Grid grid) {
        int[] fallen = grid.fall();
        for (int row = 0; row < 5; row++) {
            now.brokenOf[row] += fallen[row];
        }
        now.mask = grid.mask();
        return Arrays.stream(fallen).sum();
    }

    int turn(int thief) {
        need(thief, 0, 1);
        save(now.copy());
        int before = now.thief;
        now.thief = thief;
        return before;
    }

    int knock(int row, int place) {
        needPlace(row, place);
        Grid grid = Grid.of(now.mask);
        refuse(!grid.at[row][place], new IllegalStateException());
        save(now.copy());
        grid.at[row][place] = false;
        now.brokenOf[row]++;
        return drop(grid);
    }

    int put(int row, int place) {
        needPlace(row, place);
        Grid grid = Grid.of(now.mask);
        refuse(grid.at[row][place] || !grid.rests(row, place), new IllegalStateException());
        save(now.copy());
        grid.at[row][place] = true;
        now.mask = grid.mask();
        return count(1);
    }

    int mirror() {
        save(now.copy());
        Grid from = Grid.of(now.mask);
        Grid to = new Grid();
        for (int row = 0; row < 5; row++) {
            for (int place = 0; place <= 4 - row; place++) {
                to.at[row][4 - row - place] = from.at[row][place];
            }
        }
        now.mask = to.mask();
        now.thief = 1 - now.thief;
        return now.mask;
    }

    int refill() {
        save(now.copy());
        int before = count(1);
        now.mask = 32767;
        now.thief = 0;
        return 15 - before;
    }

    int set(int setting, int value) {
        refuse(setting < 0 || setting > 2, new IndexOutOfBoundsException());
        need(value, setting == 0 ? 1 : 0, setting == 0 ? 3 : 1);
        save(now.copy());
        int before = now.settings[setting];
        now.settings[setting] = value;
        return before;
    }

    int append(int code) {
        need(code, 33, 126);
        refuse(buffer.length() == 60, new IllegalStateException());
        buffer += (char) code;
        return buffer.length();
    }

    int clearBuffer() {
        int before = buffer.length();
        buffer = "";
        return before;
    }

    int firstError() {
        for (int i = 0; i < buffer.length(); i++) {
            if (!begins(buffer.substring(0, i + 1))) {
                return i;
            }
        }
        return buffer.length();
    }

    private static boolean begins(String text) {
        String[] pieces = text.split(";", -1);
        String last = pieces[pieces.length - 1];
        return PARTS.containsAll(Arrays.asList(pieces).subList(0, pieces.length - 1))
                && PARTS.stream().anyMatch(part -> part.startsWith(last));
    }

    int obey() {
        List<String> orders = Arrays.asList(buffer.split(";", -1));
        refuse(!PARTS.containsAll(orders), new IllegalArgumentException());
        State before = now.copy();
        ArrayDeque<State> savedBefore = new ArrayDeque<>(saved);
        int done = 0;
        try {
            for (String order : orders) {
                doOrder(order);
                done++;
            }
        } catch (RuntimeException e) {
            // The first order that can't be done ends them.
        }
        saved.clear();
        saved.addAll(savedBefore);
        save(before);
        buffer = "";
        return done;
    }

    private void doOrder(String order) {
        int row = order.length() > 1 ? order.charAt(1) - '0' : 0;
        int number = order.length() > 2 ? order.charAt(2) - '0' : 0;
        switch (order.charAt(0)) {
            case 't' -> take(row, number);
            case 'k' -> knock(row, number);
            case 'p' -> put(row, number);
            case 'm' -> mirror();
            default -> refill();
        }
    }

    int keep() {
        snapshot = now.copy();
        return now.mask;
    }

    int goBack() {
        refuse(snapshot == null, new IllegalStateException());
        save(now.copy());
        now = snapshot.copy();
        return now.mask;
    }

    int undo() {
        refuse(saved.isEmpty(), new IllegalStateException());
        now = saved.removeLast();
        return saved.size();
    }

    int row(int row, int what) {
        needRow(row);
        need(what, 0, 5);
        List<Integer> places = Grid.of(now.mask).places(row);
        int none = BottlePyramid.NONE;
        int most = 0;
        for (int bottles = 1; bottles <= 5; bottles++) {
            most = why(row, bottles) == 0 ? bottles : most;
        }
        int[] numbers = {places.size(), places.isEmpty() ? none : places.get(0),
            places.isEmpty() ? none : places.get(places.size() - 1), most, now.takenFrom[row], now.brokenOf[row]};
        return numbers[what];
    }

    int count(int what) {
        need(what, 0, 9);
        int possible = 0;
        for (int row = 0; row < 5; row++) {
            for (int bottles = 1; bottles <= 5; bottles++) {
                possible += why(row, bottles) == 0 ? 1 : 0;
            }
        }
        int winner = now.settings[2] == 0 ? 1 - now.thief : now.thief;
        int[] numbers = {now.mask, Integer.bitCount(now.mask), now.thief, now.takenBy[0], now.takenBy[1],
            Arrays.stream(now.brokenOf).sum(), now.thefts, possible, possible == 0 ? winner : BottlePyramid.NONE,
            saved.size()};
        return numbers[what];
    }

    int setting(int setting) {
        refuse(setting < 0 || setting > 2, new IndexOutOfBoundsException());
        return now.settings[setting];
    }

    int why(int row, int bottles) {
        needRow(row);
        need(bottles, 1, 5);
        return reason(now.settings, now.thief, now.mask, row, bottles);
    }

    private static int reason(int[] settings, int thief, int mask, int row, int bottles) {
        if (bottles > settings[0]) {
            return 1;
        }
        Grid grid = Grid.of(mask);
        if (grid.places(row).size() < bottles) {
            return 2;
        }
        grid.rob(thief, row, bottles);
        return settings[1] == 1 && Arrays.stream(grid.fall()).sum() > 0 ? 3 : 0;
    }

    int falls(int row, int bottles) {
        needRow(row);
        need(bottles, 1, 5);
        Grid grid = Grid.of(now.mask);
        if (grid.places(row).size() < bottles) {
            return BottlePyramid.NONE;
        }
        grid.rob(now.thief, row, bottles);
        return Arrays.stream(grid.fall()).sum();
    }

    /** By the settings: 1 if the thief wins, the longest game, the shortest game, the best theft. */
    private static int[] played(int[] settings, int thief, int mask) {
        String key = Arrays.toString(settings) + thief + "," + mask;
        if (PLAYED.containsKey(key)) {
            return PLAYED.get(key);
        }
        List<int[]> behind = new ArrayList<>();
        int best = BottlePyramid.NONE;
        for (int row = 4; row >= 0; row--) {
            for (int bottles = 5; bottles >= 1; bottles--) {
                if (reason(settings, thief, mask, row, bottles) == 0) {
                    Grid grid = Grid.of(mask);
                    grid.rob(thief, row, bottles);
                    grid.fall();
                    int[] next = played(settings, 1 - thief, grid.mask());
                    behind.add(next);
                    best = next[0] == 0 ? 10 * row + bottles : best;
                }
            }
        }
        int[] found = {settings[2], 0, 0, best};
        if (!behind.isEmpty()) {
            found[0] = behind.stream().anyMatch(next -> next[0] == 0) ? 1 : 0;
            found[1] = 1 + behind.stream().mapToInt(next -> next[1]).max().getAsInt();
            found[2] = 1 + behind.stream().mapToInt(next -> next[2]).min().getAsInt();
        }
        PLAYED.put(key, found);
        return found;
    }

    int wins(int thief) {
        need(thief, 0, 1);
        return played(now.settings, thief, now.mask)[0];
    }

    int best() {
        return played(now.settings, now.thief, now.mask)[3];
    }

    int length(int what) {
        need(what, 0, 1);
        return played(now.settings, now.thief, now.mask)[1 + what];
    }

    int pyramids(int what) {
        need(what, 0, 3);
        String key = Arrays.toString(now.settings) + what;
        if (!COUNTED.containsKey(key)) {
            int sum = 0;
            for (int mask = 0; mask <= 32767; mask++) {
                if (Arrays.stream(Grid.of(mask).fall()).sum() == 0 && isCounted(mask, what)) {
                    sum++;
                }
            }
            COUNTED.put(key, sum);
        }
        return COUNTED.get(key);
    }

    private boolean isCounted(int mask, int what) {
        return switch (what) {
            case 0 -> true;
            case 1, 2 -> played(now.settings, what - 1, mask)[0] == 1;
            default -> played(now.settings, 0, mask)[1] == 0 && played(now.settings, 1, mask)[1] == 0;
        };
    }

    double brokenShare() {
        int gone = count(3) + count(4) + count(5);
        return gone == 0 ? 0.0 : (double) count(5) / gone;
    }

    float wonShare() {
        return (float) pyramids(1 + now.thief) / pyramids(0);
    }

    long digest() {
        List<Long> values = new ArrayList<>();
        for (int i = 0; i <= 9; i++) values.add((long) count(i));
        for (int i = 0; i <= 2; i++) values.add((long) setting(i));
        for (int row = 0; row <= 4; row++) {
            for (int i = 0; i <= 5; i++) values.add((long) row(row, i));
            for (int i = 1; i <= 3; i++) {
                values.add((long) why(row, i));
                values.add((long) falls(row, i));
            }
        }
        values.add((long) wins(0));
        values.add((long) wins(1));
        values.add((long) best());
        values.add((long) length(0));
        values.add((long) length(1));
        for (int i = 0; i <= 3; i++) values.add((long) pyramids(i));
        values.add(Double.doubleToLongBits(brokenShare()));
        values.add((long) Float.floatToIntBits(wonShare()));
        values.add(snapshot == null ? 0L : 1L);
        values.add((long) buffer.length());
        buffer.chars().forEach(code -> values.add((long) code));
        long hash = 3323;
        for (long value : values) {
            hash = 31 * hash + value;
        }
        return hash;
    }
}
