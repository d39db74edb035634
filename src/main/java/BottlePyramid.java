/** A pyramid of bottles that two thieves rob in turns from both sides. */
public final class BottlePyramid {
    public static final int NONE = -1;

    private static final int ROWS = 5;
    private static final int FULL = 32767;
    private static final int MOST_WEIGHED = 5;
    private static final int MOST_SAVED = 6;
    private static final int MOST_TYPED = 60;
    private static final int SETTING_CHOICES = 12;

    // A state is one row of numbers, so that saving and restoring it can leave none of them out.
    private static final int MASK = 0;
    private static final int THIEF = 1;
    private static final int THEFTS = 2;
    private static final int SETTINGS = 3;
    private static final int TAKEN_FROM = 6;
    private static final int BROKEN_OF = 11;
    private static final int TAKEN_BY = 16;
    private static final int STATE_SIZE = 18;

    private final int[] now = new int[STATE_SIZE];
    private final int[] saved = new int[MOST_SAVED * STATE_SIZE];
    private int savedStates = 0;
    private final int[] snapshot = new int[STATE_SIZE];
    private boolean hasSnapshot = false;
    private final char[] typed = new char[MOST_TYPED];
    private int typedLength = 0;
    private final int[] shapes = Pile.allShapes();
    private final Play[] plays = new Play[SETTING_CHOICES];

    public BottlePyramid() {
        now[MASK] = FULL;
        now[SETTINGS] = 1;
    }

    // ---- thefts

    public int take(int row, int bottles)
            throws IndexOutOfBoundsException, IllegalArgumentException, IllegalStateException {
        if (!isRow(row)) {
            throw new IndexOutOfBoundsException("there is no such row");
        }
        if (bottles < 1 || bottles > now[SETTINGS]) {
            throw new IllegalArgumentException("bottles is out of range");
        }
        if (reasonAgainst(row, bottles) != 0) {
            throw new IllegalStateException("the theft is not possible");
        }
        save();
        return steal(row, bottles);
    }

    public int turn(int thief) throws IllegalArgumentException {
        if (thief < 0 || thief > 1) {
            throw new IllegalArgumentException("thief is out of range");
        }
        save();
        int before = now[THIEF];
        now[THIEF] = thief;
        return before;
    }

    // ---- the pyramid

    public int knock(int row, int place) throws IndexOutOfBoundsException, IllegalStateException {
        if (!isPlace(row, place)) {
            throw new IndexOutOfBoundsException("there is no such place");
        }
        if (!Pile.hasBottle(now[MASK], row, place)) {
            throw new IllegalStateException("there is no bottle");
        }
        save();
        return knockOut(row, place);
    }

    public int put(int row, int place) throws IndexOutOfBoundsException, IllegalStateException {
        if (!isPlace(row, place)) {
            throw new IndexOutOfBoundsException("there is no such place");
        }
        if (!Pile.hasRoom(now[MASK], row, place)) {
            throw new IllegalStateException("there is a bottle, or one there would not rest");
        }
        save();
        return addBottle(row, place);
    }

    public int mirror() {
        save();
        return swapSides();
    }

    public int refill() {
        save();
        return fillUp();
    }

    public int set(int setting, int value) throws IndexOutOfBoundsException, IllegalArgumentException {
        if (!isSetting(setting)) {
            throw new IndexOutOfBoundsException("there is no such setting");
        }
        int lowest = setting == 0 ? 1 : 0;
        int highest = setting == 0 ? 3 : 1;
        if (value < lowest || value > highest) {
            throw new IllegalArgumentException("value is out of range");
        }
        save();
        int before = now[SETTINGS + setting];
        now[SETTINGS + setting] = value;
        return before;
    }

    // ---- texts, the snapshot

    public int append(int code) throws IllegalArgumentException, IllegalStateException {
        if (code < 33 || code > 126) {
            throw new IllegalArgumentException("code is not 33 to 126");
        }
        if (typedLength >= MOST_TYPED) {
            throw new IllegalStateException("the buffer is full");
        }
        typed[typedLength] = (char) code;
        typedLength++;
        return typedLength;
    }

    public int clearBuffer() {
        int before = typedLength;
        typedLength = 0;
        return before;
    }

    public int firstError() {
        int state = Grammar.START;
        for (int i = 0; i < typedLength; i++) {
            state = Grammar.next(state, typed[i]);
            if (state == Grammar.ERROR) {
                return i;
            }
        }
        return typedLength;
    }

    public int obey() throws IllegalArgumentException {
        if (!isComplete()) {
            throw new IllegalArgumentException("the buffer is not complete orders as a text");
        }
        save();
        int done = doOrders();
        typedLength = 0;
        return done;
    }

    public int keep() {
        System.arraycopy(now, 0, snapshot, 0, STATE_SIZE);
        hasSnapshot = true;
        return now[MASK];
    }

    public int goBack() throws IllegalStateException {
        if (!hasSnapshot) {
            throw new IllegalStateException("there is no snapshot");
        }
        save();
        System.arraycopy(snapshot, 0, now, 0, STATE_SIZE);
        return now[MASK];
    }

    public int undo() throws IllegalStateException {
        if (savedStates <= 0) {
            throw new IllegalStateException("there is no saved state");
        }
        savedStates--;
        System.arraycopy(saved, savedStates * STATE_SIZE, now, 0, STATE_SIZE);
        return savedStates;
    }

    // ---- looks; nothing is changed

    public int row(int row, int what) throws IndexOutOfBoundsException, IllegalArgumentException {
        if (!isRow(row)) {
            throw new IndexOutOfBoundsException("there is no such row");
        }
        switch (what) {
            case 0: return Integer.bitCount(Pile.bitsOf(now[MASK], row));
            case 1: return lowestPlace(row);
            case 2: return highestPlace(row);
            case 3: return greatestTheft(row);
            case 4: return now[TAKEN_FROM + row];
            case 5: return now[BROKEN_OF + row];
            default: throw new IllegalArgumentException("what is not 0 to 5");
        }
    }

    public int count(int what) throws IllegalArgumentException {
        switch (what) {
            case 0: return now[MASK];
            case 1: return Integer.bitCount(now[MASK]);
            case 2: return now[THIEF];
            case 3: return now[TAKEN_BY];
            case 4: return now[TAKEN_BY + 1];
            case 5: return brokenInAll();
            case 6: return now[THEFTS];
            case 7: return possibleThefts();
            case 8: return winner();
            case 9: return savedStates;
            default: throw new IllegalArgumentException("what is not 0 to 9");
        }
    }

    public int setting(int setting) throws IndexOutOfBoundsException {
        if (!isSetting(setting)) {
            throw new IndexOutOfBoundsException("there is no such setting");
        }
        return now[SETTINGS + setting];
    }

    public int why(int row, int bottles) throws IndexOutOfBoundsException, IllegalArgumentException {
        if (!isRow(row)) {
            throw new IndexOutOfBoundsException("there is no such row");
        }
        if (bottles < 1 || bottles > MOST_WEIGHED) {
            throw new IllegalArgumentException("bottles is out of range");
        }
        return reasonAgainst(row, bottles);
    }

    // ---- what would be; nothing is changed

    public int falls(int row, int bottles) throws IndexOutOfBoundsException, IllegalArgumentException {
        if (!isRow(row)) {
            throw new IndexOutOfBoundsException("there is no such row");
        }
        if (bottles < 1 || bottles > MOST_WEIGHED) {
            throw new IllegalArgumentException("bottles is out of range");
        }
        return Pile.fallenBy(now[MASK], now[THIEF], row, bottles);
    }

    public int wins(int thief) throws IllegalArgumentException {
        if (thief < 0 || thief > 1) {
            throw new IllegalArgumentException("thief is out of range");
        }
        return play().isWonBy(thief, now[MASK]) ? 1 : 0;
    }

    public int best() {
        Play play = play();
        int other = 1 - now[THIEF];
        for (int row = 0; row < ROWS; row++) {
            for (int bottles = 1; bottles <= now[SETTINGS]; bottles++) {
                if (reasonAgainst(row, bottles) == 0 && !play.isWonBy(other, maskBehind(row, bottles))) {
                    return 10 * row + bottles;
                }
            }
        }
        return NONE;
    }

    public int length(int what) throws IllegalArgumentException {
        if (what < 0 || what > 1) {
            throw new IllegalArgumentException("what is not 0 or 1");
        }
        return what == 0
                ? play().longestGame(now[THIEF], now[MASK])
                : play().shortestGame(now[THIEF], now[MASK]);
    }

    public int pyramids(int what) throws IllegalArgumentException {
        switch (what) {
            case 0: return shapes.length;
            case 1: return play().shapesWonBy(0);
            case 2: return play().shapesWonBy(1);
            case 3: return play().shapesOver();
            default: throw new IllegalArgumentException("what is not 0 to 3");
        }
    }

    public double brokenShare() {
        int broken = brokenInAll();
        int gone = broken + now[TAKEN_BY] + now[TAKEN_BY + 1];
        return gone == 0 ? 0.0 : (double) broken / (double) gone;
    }

    public float wonShare() {
        int all = shapes.length;
        return all == 0 ? 0.0f : (float) play().shapesWonBy(now[THIEF]) / (float) all;
    }

    public long digest() {
        long hash = 3323L;
        for (int what = 0; what <= 9; what++) {
            hash = 31L * hash + count(what);
        }
        for (int setting = 0; setting <= 2; setting++) {
            hash = 31L * hash + now[SETTINGS + setting];
        }
        for (int row = 0; row < ROWS; row++) {
            hash = hashRow(hash, row);
        }
        hash = 31L * hash + wins(0);
        hash = 31L * hash + wins(1);
        hash = 31L * hash + best();
        hash = 31L * hash + length(0);
        hash = 31L * hash + length(1);
        for (int what = 0; what <= 3; what++) {
            hash = 31L * hash + pyramids(what);
        }
        hash = 31L * hash + bitsOfShare(brokenShare(), 1023, 52);
        hash = 31L * hash + bitsOfShare((double) wonShare(), 127, 23);
        hash = 31L * hash + (hasSnapshot ? 1L : 0L);
        return hashBuffer(hash);
    }

    // ---- the parts of the calls above

    private static boolean isRow(int row) {
        return row >= 0 && row < ROWS;
    }

    private static boolean isPlace(int row, int place) {
        return isRow(row) && place >= 0 && place < ROWS - row;
    }

    private static boolean isSetting(int setting) {
        return setting >= 0 && setting <= 2;
    }

    private void save() {
        if (savedStates >= MOST_SAVED) {
            System.arraycopy(saved, STATE_SIZE, saved, 0, (MOST_SAVED - 1) * STATE_SIZE);
            savedStates = MOST_SAVED - 1;
        }
        System.arraycopy(now, 0, saved, savedStates * STATE_SIZE, STATE_SIZE);
        savedStates++;
    }

    private boolean isBarring() {
        return now[SETTINGS + 1] == 1;
    }

    private int reasonAgainst(int row, int bottles) {
        if (bottles > now[SETTINGS]) {
            return 1;
        }
        int fallen = Pile.fallenBy(now[MASK], now[THIEF], row, bottles);
        if (fallen == NONE) {
            return 2;
        }
        return isBarring() && fallen > 0 ? 3 : 0;
    }

    private int maskBehind(int row, int bottles) {
        return Pile.settled(Pile.robbed(now[MASK], now[THIEF], row, bottles));
    }

    private int steal(int row, int bottles) {
        int thief = now[THIEF];
        now[TAKEN_FROM + row] += bottles;
        now[TAKEN_BY + thief] += bottles;
        now[THEFTS]++;
        now[THIEF] = 1 - thief;
        return letFall(Pile.robbed(now[MASK], thief, row, bottles));
    }

    private int knockOut(int row, int place) {
        now[BROKEN_OF + row]++;
        return letFall(now[MASK] & ~Pile.bit(row, place));
    }

    private int letFall(int unsettled) {
        int left = Pile.settled(unsettled);
        int fallen = unsettled & ~left;
        for (int row = 0; row < ROWS; row++) {
            now[BROKEN_OF + row] += Integer.bitCount(Pile.bitsOf(fallen, row));
        }
        now[MASK] = left;
        return Integer.bitCount(fallen);
    }

    private int addBottle(int row, int place) {
        now[MASK] |= Pile.bit(row, place);
        return Integer.bitCount(now[MASK]);
    }

    private int swapSides() {
        now[MASK] = Pile.mirrored(now[MASK]);
        now[THIEF] = 1 - now[THIEF];
        return now[MASK];
    }

    private int fillUp() {
        int coming = Integer.bitCount(FULL) - Integer.bitCount(now[MASK]);
        now[MASK] = FULL;
        now[THIEF] = 0;
        return coming;
    }

    private boolean isComplete() {
        int state = Grammar.START;
        for (int i = 0; i < typedLength; i++) {
            state = Grammar.next(state, typed[i]);
        }
        return state == Grammar.END;
    }

    private int doOrders() {
        int done = 0;
        int letter = ';';
        int first = 0;
        int second = 0;
        for (int i = 0; i <= typedLength; i++) {
            int code = i < typedLength ? typed[i] : ';';
            if (code == ';') {
                if (!doOrder(letter, first, second)) {
                    return done;
                }
                done++;
            } else if (code >= '0' && code <= '4') {
                // An order has two digits or none, so the last two are always its own.
                first = second;
                second = code - '0';
            } else {
                letter = code;
            }
        }
        return done;
    }

    private boolean doOrder(int letter, int row, int number) {
        switch (letter) {
            case 't':
                if (reasonAgainst(row, number) != 0) {
                    return false;
                }
                steal(row, number);
                return true;
            case 'k':
                if (!Pile.hasBottle(now[MASK], row, number)) {
                    return false;
                }
                knockOut(row, number);
                return true;
            case 'p':
                if (!Pile.hasRoom(now[MASK], row, number)) {
                    return false;
                }
                addBottle(row, number);
                return true;
            case 'm':
                swapSides();
                return true;
            case 'r':
                fillUp();
                return true;
            default:
                return false;
        }
    }

    private int lowestPlace(int row) {
        for (int place = 0; place < ROWS - row; place++) {
            if (Pile.hasBottle(now[MASK], row, place)) {
                return place;
            }
        }
        return NONE;
    }

    private int highestPlace(int row) {
        for (int place = ROWS - row - 1; place >= 0; place--) {
            if (Pile.hasBottle(now[MASK], row, place)) {
                return place;
            }
        }
        return NONE;
    }

    private int greatestTheft(int row) {
        for (int bottles = now[SETTINGS]; bottles >= 1; bottles--) {
            if (reasonAgainst(row, bottles) == 0) {
                return bottles;
            }
        }
        return 0;
    }

    private int brokenInAll() {
        int sum = 0;
        for (int row = 0; row < ROWS; row++) {
            sum += now[BROKEN_OF + row];
        }
        return sum;
    }

    private int possibleThefts() {
        int sum = 0;
        for (int row = 0; row < ROWS; row++) {
            for (int bottles = 1; bottles <= now[SETTINGS]; bottles++) {
                if (reasonAgainst(row, bottles) == 0) {
                    sum++;
                }
            }
        }
        return sum;
    }

    private int winner() {
        if (possibleThefts() > 0) {
            return NONE;
        }
        return now[SETTINGS + 2] == 1 ? now[THIEF] : 1 - now[THIEF];
    }

    // Each choice of settings is played through once at most, since a run may change them at every call;
    // set() lets no other values in than the choices counted here.
    private Play play() {
        int choice = 4 * (now[SETTINGS] - 1) + 2 * now[SETTINGS + 1] + now[SETTINGS + 2];
        Play play = plays[choice];
        if (play == null) {
            play = new Play(shapes, now[SETTINGS], isBarring(), now[SETTINGS + 2] == 1);
            plays[choice] = play;
        }
        return play;
    }

    private long hashRow(long start, int row) {
        long hash = start;
        for (int what = 0; what <= 5; what++) {
            hash = 31L * hash + row(row, what);
        }
        for (int bottles = 1; bottles <= 3; bottles++) {
            hash = 31L * hash + why(row, bottles);
            hash = 31L * hash + falls(row, bottles);
        }
        return hash;
    }

    private long hashBuffer(long start) {
        long hash = 31L * start + typedLength;
        for (int i = 0; i < typedLength; i++) {
            hash = 31L * hash + typed[i];
        }
        return hash;
    }

    // The language leaves no library call for the bits of a double or a float; a share is 0 to 1,
    // so doubling it up to 1 is exact and shows its exponent.
    private static long bitsOfShare(double share, int bias, int digits) {
        if (share <= 0.0) {
            return 0L;
        }
        double scaled = share;
        int exponent = bias;
        for (int doublings = 1; doublings < bias && scaled < 1.0; doublings++) {
            scaled = scaled * 2.0;
            exponent--;
        }
        return ((long) exponent << digits) + (long) ((scaled - 1.0) * (double) (1L << digits));
    }

    /** What can be said of a pyramid as a mask, without a game around it. */
    private static final class Pile {
        private static final int[] ROW_START = {0, 5, 9, 12, 14};
        private static final int SHAPES = 132;

        private static int bit(int row, int place) {
            return 1 << (ROW_START[row] + place);
        }

        private static int bitsOf(int mask, int row) {
            return (mask >> ROW_START[row]) & ((1 << (ROWS - row)) - 1);
        }

        private static boolean hasBottle(int mask, int row, int place) {
            return (mask & bit(row, place)) != 0;
        }

        private static boolean hasRoom(int mask, int row, int place) {
            if (hasBottle(mask, row, place)) {
                return false;
            }
            return row == 0 || (hasBottle(mask, row - 1, place) && hasBottle(mask, row - 1, place + 1));
        }

        private static int settled(int mask) {
            int left = mask & 31;
            int below = left;
            for (int row = 1; row < ROWS; row++) {
                // What rests can lie on the row below alone, so the bits of higher rows drop out here.
                below = (mask >> ROW_START[row]) & below & (below >> 1);
                left |= below << ROW_START[row];
            }
            return left;
        }

        private static int mirrored(int mask) {
            int turned = 0;
            for (int row = 0; row < ROWS; row++) {
                for (int place = 0; place < ROWS - row; place++) {
                    if (hasBottle(mask, row, place)) {
                        turned |= bit(row, ROWS - 1 - row - place);
                    }
                }
            }
            return turned;
        }

        // Before anything falls; NONE if there are not so many bottles in the row.
        private static int robbed(int mask, int thief, int row, int bottles) {
            int left = mask;
            int toTake = bottles;
            for (int i = 0; i < ROWS - row && toTake > 0; i++) {
                int place = thief == 0 ? i : ROWS - 1 - row - i;
                int bottle = 1 << (ROW_START[row] + place);
                if ((left & bottle) != 0) {
                    left &= ~bottle;
                    toTake--;
                }
            }
            return toTake == 0 ? left : NONE;
        }

        private static int fallenBy(int mask, int thief, int row, int bottles) {
            int left = robbed(mask, thief, row, bottles);
            return left == NONE ? NONE : Integer.bitCount(left) - Integer.bitCount(settled(left));
        }

        // All pyramids in which every bottle rests, by rising masks.
        private static int[] allShapes() {
            int[] found = new int[SHAPES];
            addShapes(found, 0, ROWS - 1, 0);
            return found;
        }

        private static int addShapes(int[] found, int size, int row, int above) {
            if (row < 0) {
                if (size < found.length) {
                    found[size] = above;
                }
                return size + 1;
            }
            int carried = row == ROWS - 1 ? 0 : bitsOf(above, row + 1);
            int needed = carried | (carried << 1);
            int count = size;
            for (int bits = 0; bits < 1 << (ROWS - row); bits++) {
                if ((bits & needed) == needed) {
                    count = addShapes(found, count, row - 1, above | (bits << ROW_START[row]));
                }
            }
            return count;
        }
    }

    /** The characters that may follow one another in orders as a text. */
    private static final class Grammar {
        private static final int ERROR = -1;
        private static final int START = 0;
        private static final int END = 1;
        private static final int ROW_OF_THEFT = 2;
        private static final int ROW_OF_PLACE = 3;
        private static final int BOTTLES = 4;
        private static final int PLACE_IN_ROW = 10;

        private static int next(int state, int code) {
            switch (state) {
                case START: return afterLetter(code);
                case END: return code == ';' ? START : ERROR;
                case ROW_OF_THEFT: return isDigit(code, 0, ROWS - 1) ? BOTTLES : ERROR;
                case ROW_OF_PLACE: return isDigit(code, 0, ROWS - 1) ? PLACE_IN_ROW + (code - '0') : ERROR;
                case BOTTLES: return isDigit(code, 1, 3) ? END : ERROR;
                default: break;
            }
            if (state < PLACE_IN_ROW) {
                return ERROR;
            }
            int row = state - PLACE_IN_ROW;
            return isDigit(code, 0, ROWS - 1 - row) ? END : ERROR;
        }

        private static int afterLetter(int code) {
            switch (code) {
                case 't': return ROW_OF_THEFT;
                case 'k': return ROW_OF_PLACE;
                case 'p': return ROW_OF_PLACE;
                case 'm': return END;
                case 'r': return END;
                default: return ERROR;
            }
        }

        private static boolean isDigit(int code, int lowest, int highest) {
            return code >= '0' + lowest && code <= '0' + highest;
        }
    }

    /** The games of all shapes under one choice of settings, played through to their ends. */
    private static final class Play {
        private final int[] shapes;
        private final int most;
        private final boolean barring;
        private final boolean wonWhenOver;
        private final boolean[] won;
        private final int[] longest;
        private final int[] shortest;

        private Play(int[] shapes, int most, boolean barring, boolean wonWhenOver) {
            this.shapes = shapes;
            this.most = most;
            this.barring = barring;
            this.wonWhenOver = wonWhenOver;
            won = new boolean[2 * shapes.length];
            longest = new int[2 * shapes.length];
            shortest = new int[2 * shapes.length];
            // A theft leaves a lower mask, so by rising masks all that lies behind is known.
            for (int at = 0; at < shapes.length; at++) {
                playOut(0, at);
                playOut(1, at);
            }
        }

        private void playOut(int thief, int at) {
            boolean over = true;
            boolean wins = false;
            int high = 0;
            int low = 0;
            for (int row = 0; row < ROWS; row++) {
                for (int bottles = 1; bottles <= most; bottles++) {
                    int behind = slotBehind(thief, shapes[at], row, bottles);
                    if (behind != NONE) {
                        wins = wins || !won[behind];
                        high = Math.max(high, longest[behind] + 1);
                        low = over ? shortest[behind] + 1 : Math.min(low, shortest[behind] + 1);
                        over = false;
                    }
                }
            }
            int slot = 2 * at + thief;
            won[slot] = over ? wonWhenOver : wins;
            longest[slot] = high;
            shortest[slot] = low;
        }

        // Where it stands what comes of a theft; NONE if the theft is not possible.
        private int slotBehind(int thief, int mask, int row, int bottles) {
            int unsettled = Pile.robbed(mask, thief, row, bottles);
            if (unsettled == NONE) {
                return NONE;
            }
            int left = Pile.settled(unsettled);
            return barring && left != unsettled ? NONE : slotOf(1 - thief, left);
        }

        private int slotOf(int thief, int mask) {
            int low = 0;
            int high = shapes.length - 1;
            for (int looks = 0; looks < shapes.length && low <= high; looks++) {
                int middle = (low + high) / 2;
                if (shapes[middle] == mask) {
                    return 2 * middle + thief;
                }
                if (shapes[middle] < mask) {
                    low = middle + 1;
                } else {
                    high = middle - 1;
                }
            }
            return NONE;
        }

        private boolean isWonBy(int thief, int mask) {
            int slot = slotOf(thief, mask);
            return slot != NONE && won[slot];
        }

        private int longestGame(int thief, int mask) {
            int slot = slotOf(thief, mask);
            return slot == NONE ? 0 : longest[slot];
        }

        private int shortestGame(int thief, int mask) {
            int slot = slotOf(thief, mask);
            return slot == NONE ? 0 : shortest[slot];
        }

        private int shapesWonBy(int thief) {
            int sum = 0;
            for (int at = 0; at < shapes.length; at++) {
                sum += won[2 * at + thief] ? 1 : 0;
            }
            return sum;
        }

        private int shapesOver() {
            int sum = 0;
            for (int at = 0; at < shapes.length; at++) {
                sum += longest[2 * at] == 0 && longest[2 * at + 1] == 0 ? 1 : 0;
            }
            return sum;
        }
    }
}
