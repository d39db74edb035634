import java.util.ArrayList;
import java.util.List;
import java.util.function.Consumer;
import java.util.stream.IntStream;

/** What the tests share: pyramids to begin with, and the telling of answers that are not as due. */
abstract class Check {
    static final Class<?> INDEX = IndexOutOfBoundsException.class;
    static final Class<?> ARGUMENT = IllegalArgumentException.class;
    static final Class<?> STATE = IllegalStateException.class;
    static final int LOW = Integer.MIN_VALUE;
    static final int HIGH = Integer.MAX_VALUE;
    static final int FULL = 32767;

    private static String place = "";
    private static int wrong = 0;

    /** What stands ahead of each wrong answer that is told from here on. */
    static void at(String newPlace) {
        place = newPlace;
    }

    static void due(String what, Object got, Object want) {
        if (!got.equals(want)) {
            tell(what + " is " + got + ", due is " + want);
        }
    }

    static void tell(String fault) {
        wrong++;
        System.out.println(place + ": " + fault);
    }

    static void end(String tested) {
        System.out.println(tested + " were tested, " + wrong + " answers were wrong");
        if (wrong > 0) {
            System.exit(1);
        }
    }

    static String thrownBy(BottlePyramid x, Consumer<BottlePyramid> call) {
        try {
            call.accept(x);
        } catch (RuntimeException e) {
            return e.getClass().getSimpleName();
        }
        return "nothing";
    }

    /** The call must throw just this and change nothing. */
    static void refused(String what, BottlePyramid x, Class<?> due, Consumer<BottlePyramid> call) {
        long before = x.digest();
        due("what " + what + " throws", thrownBy(x, call), due.getSimpleName());
        due("the digest after a refused " + what, x.digest(), before);
    }

    static void allowed(String what, BottlePyramid x, Consumer<BottlePyramid> call) {
        due("what " + what + " throws", thrownBy(x, call), "nothing");
    }

    static BottlePyramid full() {
        return new BottlePyramid();
    }

    static BottlePyramid typed(BottlePyramid x, String text) {
        text.chars().forEach(x::append);
        return x;
    }

    static BottlePyramid typed(String text) {
        return typed(full(), text);
    }

    /** A pyramid after these orders, with one saved state. */
    static BottlePyramid after(String orders) {
        BottlePyramid x = typed(orders);
        x.obey();
        return x;
    }

    static BottlePyramid withSettings(int most, int barred, int overWins) {
        return withSettings(full(), most, barred, overWins);
    }

    static BottlePyramid withSettings(BottlePyramid x, int most, int barred, int overWins) {
        x.set(0, most);
        x.set(1, barred);
        x.set(2, overWins);
        return x;
    }

    /** These bottles alone, each as 10 times its row and its place; 15 are broken, and the thief 0 is at his turn. */
    static BottlePyramid heap(int... bottles) {
        BottlePyramid x = after("k00;k01;k02;k03;k04");
        for (int bottle : bottles) {
            x.put(bottle / 10, bottle % 10);
        }
        return x;
    }

    /** The bottle at a place, put last, and all those beneath it. */
    static BottlePyramid triangle(int row, int place) {
        BottlePyramid x = heap();
        for (int below = 0; below <= row; below++) {
            for (int i = place; i <= place + row - below; i++) {
                x.put(below, i);
            }
        }
        return x;
    }

    static BottlePyramid turned(BottlePyramid x, int thief) {
        x.turn(thief);
        return x;
    }

    static List<Integer> range(int low, int high) {
        return IntStream.rangeClosed(low, high).boxed().toList();
    }

    /** Numbers just outside, far outside, and such as lie inside when their upper bits are lost. */
    static List<Integer> outside(int low, int high) {
        return List.of(low - 1, high + 1, low + 32, low + 256, low + 65536, low - 65536, LOW + high, LOW, HIGH);
    }

    /** The bit of a place, counted as the document lists the places. */
    static int bit(int row, int place) {
        int before = 0;
        for (int below = 0; below < row; below++) {
            before += 5 - below;
        }
        return 1 << before + place;
    }

    /** Undoing the one call just made must lead back to the digest from before it. */
    static void undoes(String what, BottlePyramid x, Consumer<BottlePyramid> call) {
        long before = x.digest();
        int savedBefore = x.count(9);
        call.accept(x);
        due("saved states after " + what, x.count(9), Math.min(6, savedBefore + 1));
        x.undo();
        if (savedBefore < 6) {
            due("the digest after undoing " + what, x.digest(), before);
        }
    }

    /** All that undo() restores. */
    static String numbers(BottlePyramid x) {
        StringBuilder told = new StringBuilder();
        range(0, 6).forEach(what -> told.append(x.count(what)).append(' '));
        range(0, 2).forEach(setting -> told.append(x.setting(setting)).append(' '));
        range(0, 4).forEach(row -> told.append(x.row(row, 4)).append(' ').append(x.row(row, 5)).append(' '));
        return told.toString();
    }

    /** What the hash is made of, by the looks of the class and what only the test knows. */
    static List<Long> digested(BottlePyramid x, int snapshots, String buffer) {
        List<Long> values = new ArrayList<>();
        for (int i = 0; i <= 9; i++) values.add((long) x.count(i));
        for (int i = 0; i <= 2; i++) values.add((long) x.setting(i));
        for (int row = 0; row <= 4; row++) {
            for (int i = 0; i <= 5; i++) values.add((long) x.row(row, i));
            for (int i = 1; i <= 3; i++) {
                values.add((long) x.why(row, i));
                values.add((long) x.falls(row, i));
            }
        }
        values.add((long) x.wins(0));
        values.add((long) x.wins(1));
        values.add((long) x.best());
        values.add((long) x.length(0));
        values.add((long) x.length(1));
        for (int i = 0; i <= 3; i++) values.add((long) x.pyramids(i));
        values.add(Double.doubleToLongBits(x.brokenShare()));
        values.add((long) Float.floatToIntBits(x.wonShare()));
        values.add((long) snapshots);
        values.add((long) buffer.length());
        buffer.chars().forEach(code -> values.add((long) code));
        return values;
    }

    static long digestOf(BottlePyramid x, int snapshots, String buffer) {
        long hash = 3323;
        for (long value : digested(x, snapshots, buffer)) {
            hash = 31 * hash + value;
        }
        return hash;
    }
}
