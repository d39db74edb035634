import java.math.BigInteger;
import java.util.List;

/** The boundary cases that each promise names, a test a sentence. */
public final class PromiseEdgeTest extends Edges {
    public static void main(String[] args) {
        newObject();
        take();
        turn();
        knock();
        put();
        mirror();
        refill();
        set();
        append();
        clearBuffer();
        firstError();
        obey();
        keep();
        goBack();
        undo();
        row();
        count();
        setting();
        why();
        falls();
        wins();
        best();
        length();
        pyramids();
        brokenShare();
        wonShare();
        digest();
        endOfEdges();
    }

    private static void newObject() {
        section("Promise 1");
        edge("Creates a full pyramid and the turn of the thief 0, with an empty buffer and no snapshot.", () -> {
            due("the pyramid", full().count(0), FULL);
            due("the turn", full().count(2), 0);
            due("the length of the buffer", full().clearBuffer(), 0);
            refused("goBack", full(), STATE, BottlePyramid::goBack);
            due("numbers", numbers(full()), "32767 15 0 0 0 0 0 1 0 0 0 0 0 0 0 0 0 0 0 0 ");
            due("saved states", full().count(9), 0);
            BottlePyramid used = typed(full(), "m");
            used.keep();
            used.take(0, 1);
            due("the digest of one beside a used one", full().digest(), digestOf(full(), 0, ""));
        });
    }

    private static void take() {
        section("Promise 2");
        edge("Lets the thief whose turn it is commit a theft. Undoable.", () -> {
            BottlePyramid x = full();
            x.take(4, 1);
            x.take(3, 1);
            due("taken by the thief 0", x.count(3), 1);
            due("taken by the thief 1", x.count(4), 1);
            due("what the thief 1 leaves", x.row(3, 2), 0);
            undoes("take", full(), y -> y.take(0, 1));
            undoes("a theft of the last bottle", heap(2), y -> y.take(0, 1));
        });
        edge("- `row`: 0 to 4", () -> {
            int[] falls = {4, 3, 2, 1, 0};
            range(0, 4).forEach(row -> due("what falls by the row " + row, full().take(row, 1), falls[row]));
        });
        edge("- `bottles`: 1 to setting 0", () -> {
            for (int most = 1; most <= 3; most++) {
                for (int bottles = 1; bottles <= most; bottles++) {
                    BottlePyramid x = withSettings(most, 0, 0);
                    x.take(0, bottles);
                    due("taken of " + most, x.count(3), bottles);
                }
            }
        });
        edge("Returns how many bottles fall by it.", () -> {
            due("none by the top", full().take(4, 1), 0);
            due("none by the last", heap(3).take(0, 1), 0);
            due("one by one of two", heap(0, 1, 10).take(0, 1), 1);
            due("most by three of five", withSettings(3, 0, 0).take(0, 3), 9);
            due("none by all of a row", withSettings(after("k20;k22"), 3, 0, 0).take(2, 1), 0);
        });
        edge("Throws `IndexOutOfBoundsException` if there is no such row",
            () -> outside(0, 4).forEach(row -> refused("row " + row, full(), INDEX, x -> x.take(row, 1))));
        edge("Throws `IllegalArgumentException` if bottles is out of range", () -> {
            for (int setting = 1; setting <= 3; setting++) {
                int most = setting;
                outside(1, most).forEach(bottles -> refused(bottles + " of " + most, withSettings(most, 0, 0),
                    ARGUMENT, x -> x.take(0, bottles)));
            }
        });
        edge("Throws `IllegalStateException` if the theft is not possible", () -> {
            refused("one of none", heap(), STATE, x -> x.take(0, 1));
            refused("one of an empty row above", heap(0, 1), STATE, x -> x.take(1, 1));
            refused("two of one", withSettings(full(), 2, 0, 0), STATE, x -> x.take(4, 2));
            refused("three of two", withSettings(full(), 3, 0, 0), STATE, x -> x.take(3, 3));
            refused("what is barred", withSettings(1, 1, 0), STATE, x -> x.take(3, 1));
            refused("what is barred from the right", turned(withSettings(1, 1, 0), 1), STATE, x -> x.take(0, 1));
        });
    }

    private static void turn() {
        section("Promise 3");
        edge("Makes it the turn of a thief. Undoable.", () -> {
            BottlePyramid x = full();
            x.turn(0);
            due("the turn of the same", x.count(2), 0);
            x.turn(1);
            due("the turn of the other", x.count(2), 1);
            due("saved states", x.count(9), 2);
            undoes("turn", x, y -> y.turn(0));
            undoes("turn of the same", x, y -> y.turn(1));
        });
        edge("- `thief`: 0 or 1",
            () -> range(0, 1).forEach(thief -> due("the turn", turned(full(), thief).count(2), thief)));
        edge("Returns the thief whose turn it was.", () -> {
            due("at first", full().turn(1), 0);
            due("after turn(1)", turned(full(), 1).turn(1), 1);
            due("after a theft", after("t41").turn(0), 1);
        });
        edge("Throws `IllegalArgumentException` if thief is out of range",
            () -> outside(0, 1).forEach(thief -> refused("thief " + thief, full(), ARGUMENT, x -> x.turn(thief))));
    }

    private static void knock() {
        section("Promise 4");
        edge("Knocks a bottle out, which is broken; then what does not rest falls.", () -> {
            due("broken with the top", after("k40").count(5), 1);
            due("broken with a corner", after("k00").count(5), 5);
            due("broken with the last", heap(2).count(5) + heap(2).knock(0, 2), 15);
            BottlePyramid x = full();
            x.knock(0, 4);
            due("what is left", x.count(0), FULL - bit(0, 4) - bit(1, 3) - bit(2, 2) - bit(3, 1) - bit(4, 0));
            due("taken", x.count(3) + x.count(4) + x.count(6), 0);
        });
        edge("It stays the turn of the same thief. Undoable.", () -> {
            for (int thief = 0; thief <= 1; thief++) {
                BottlePyramid x = turned(full(), thief);
                x.knock(0, 0);
                due("the turn", x.count(2), thief);
            }
            undoes("knock", full(), x -> x.knock(0, 0));
        });
        edge("- `row`: 0 to 4",
            () -> range(0, 4).forEach(row -> allowed("row " + row, full(), x -> x.knock(row, 0))));
        edge("- `place`: 0 to 4 less the row", () -> {
            for (int row = 0; row <= 4; row++) {
                for (int place = 0; place <= 4 - row; place++) {
                    BottlePyramid x = full();
                    x.knock(row, place);
                    due("whether it is gone", x.count(0) & bit(row, place), 0);
                    due("what its row loses", x.row(row, 0), 4 - row);
                }
            }
        });
        edge("Returns how many bottles fall besides.", () -> {
            due("none with the top", full().knock(4, 0), 0);
            due("none with the last", heap(0).knock(0, 0), 0);
            due("one of each row with a corner", full().knock(0, 0), 4);
            due("the most", full().knock(0, 2), 8);
        });
        edge("Throws `IndexOutOfBoundsException` if there is no such row, or no such place in it",
            PromiseEdgeTest::knockAtNoPlace);
        edge("Throws `IllegalStateException` if there is no bottle", () -> {
            refused("of none", heap(), STATE, x -> x.knock(0, 0));
            refused("twice", after("k04"), STATE, x -> x.knock(0, 4));
            refused("what fell", after("k04"), STATE, x -> x.knock(4, 0));
            refused("what was taken", after("t01"), STATE, x -> x.knock(0, 0));
        });
    }

    private static void knockAtNoPlace() {
        outside(0, 4).forEach(row -> refused("row " + row, full(), INDEX, x -> x.knock(row, 0)));
        for (int k = 0; k <= 4; k++) {
            int row = k;
            outside(0, 4 - row).forEach(place ->
                refused("place " + place + " of the row " + row, full(), INDEX, x -> x.knock(row, place)));
        }
    }

    private static void put() {
        section("Promise 5");
        edge("Puts a bottle at a place. Undoable.", () -> {
            BottlePyramid x = heap();
            x.put(0, 4);
            due("the first", x.count(0), bit(0, 4));
            due("what was broken", x.count(5), 15);
            undoes("put", x, y -> y.put(0, 0));
        });
        edge("- `row`: 0 to 4",
            () -> range(0, 4).forEach(row -> allowed("row " + row, without(row, 0), x -> x.put(row, 0))));
        edge("- `place`: 0 to 4 less the row", () -> {
            for (int row = 0; row <= 4; row++) {
                for (int place = 0; place <= 4 - row; place++) {
                    BottlePyramid x = without(row, place);
                    x.put(row, place);
                    due("whether it is there", x.count(0) & bit(row, place), bit(row, place));
                    due("its row", x.row(row, 0), 5 - row);
                }
            }
        });
        edge("Returns how many bottles there are then.", () -> {
            due("the first", heap().put(0, 0), 1);
            due("the last", after("k40").put(4, 0), 15);
            due("the last by the thief 1", after("k40;m").put(4, 0), 15);
        });
        edge("Throws `IndexOutOfBoundsException` if there is no such row, or no such place in it", () -> {
            outside(0, 4).forEach(row -> refused("row " + row, heap(), INDEX, x -> x.put(row, 0)));
            for (int k = 0; k <= 4; k++) {
                int row = k;
                outside(0, 4 - row).forEach(place ->
                    refused("place " + place + " of the row " + row, after("k40"), INDEX, x -> x.put(row, place)));
            }
        });
        edge("Throws `IllegalStateException` if there is a bottle, or one there would not rest", () -> {
            refused("into a full one", full(), STATE, x -> x.put(4, 0));
            refused("on another in the row 0", heap(4), STATE, x -> x.put(0, 4));
            refused("on none", heap(), STATE, x -> x.put(1, 3));
            for (int k = 1; k <= 4; k++) {
                int row = k;
                refused("on the left one alone", without(row - 1, 1), STATE, x -> x.put(row, 0));
                refused("on the right one alone", without(row - 1, 0), STATE, x -> x.put(row, 0));
            }
        });
    }

    /** Full, but for this bottle and what fell with it. */
    private static BottlePyramid without(int row, int place) {
        BottlePyramid x = full();
        x.knock(row, place);
        return x;
    }

    private static void mirror() {
        section("Promise 6");
        edge("what was at the place i of the row k is at the place 4 - k - i of it;", () -> {
            for (int row = 0; row <= 4; row++) {
                for (int place = 0; place <= 4 - row; place++) {
                    mirrored(triangle(row, place));
                    mirrored(without(row, place));
                }
            }
        });
        edge("and makes it the turn of the other thief. Undoable.", () -> {
            BottlePyramid x = full();
            x.mirror();
            due("the turn after the thief 0", x.count(2), 1);
            x.mirror();
            due("the turn after the thief 1", x.count(2), 0);
            due("thefts", x.count(6), 0);
            undoes("mirror", x, BottlePyramid::mirror);
            undoes("mirror of a lopsided one", heap(0), BottlePyramid::mirror);
        });
        edge("Returns the pyramid then, as a mask.", () -> {
            due("of none", heap().mirror(), 0);
            due("of all", full().mirror(), FULL);
            due("of the first", heap(0).mirror(), 16);
        });
    }

    private static void mirrored(BottlePyramid x) {
        int before = x.count(0);
        int then = x.mirror();
        due("the mask", x.count(0), then);
        for (int k = 0; k <= 4; k++) {
            for (int i = 0; i <= 4 - k; i++) {
                due("whether " + k + i + " of " + before + " is on the other side",
                    (then & bit(k, 4 - k - i)) != 0, (before & bit(k, i)) != 0);
            }
        }
    }

    private static void refill() {
        section("Promise 7");
        edge("Fills the pyramid: there is a bottle at each place.", () -> {
            for (BottlePyramid x : List.of(full(), heap(), heap(2), after("k40"), after("k00"))) {
                x.refill();
                due("the pyramid", x.count(0), FULL);
            }
            BottlePyramid x = heap();
            x.refill();
            due("broken, as before", x.count(5), 15);
        });
        edge("It is the turn of the thief 0 then. Undoable.", () -> {
            for (int thief = 0; thief <= 1; thief++) {
                BottlePyramid x = turned(full(), thief);
                x.refill();
                due("the turn", x.count(2), 0);
            }
            undoes("refill", turned(heap(), 1), BottlePyramid::refill);
            undoes("refill of a full one", full(), BottlePyramid::refill);
        });
        edge("Returns how many bottles come.", () -> {
            due("none", full().refill(), 0);
            due("the top", after("k40").refill(), 1);
            due("all", heap().refill(), 15);
        });
    }

    private static void set() {
        section("Promise 8");
        edge("Changes a setting. Undoable.", () -> {
            BottlePyramid x = full();
            x.set(0, 3);
            due("the others", x.setting(1) + x.setting(2), 0);
            undoes("set", x, y -> y.set(0, 1));
            undoes("set to the same", x, y -> y.set(0, 3));
        });
        edge("- `setting`: 0 to 2",
            () -> range(0, 2).forEach(setting -> allowed("setting " + setting, full(), x -> x.set(setting, 1))));
        edge("- `value`: the new value", () -> {
            for (int value = 0; value <= 3; value++) {
                BottlePyramid x = withSettings(Math.max(1, value), value % 2, value / 2);
                due("setting 0", x.setting(0), Math.max(1, value));
                due("setting 1", x.setting(1), value % 2);
                due("setting 2", x.setting(2), value / 2);
            }
        });
        edge("Returns the previous value.", () -> {
            BottlePyramid x = withSettings(3, 1, 1);
            due("of setting 0", x.set(0, 1), 3);
            due("of setting 1", x.set(1, 0), 1);
            due("of setting 2", x.set(2, 0), 1);
            due("of setting 0, the lowest", x.set(0, 1), 1);
            due("of setting 1, the lowest", x.set(1, 0), 0);
            due("of setting 2, the lowest", x.set(2, 1), 0);
        });
        edge("Throws `IndexOutOfBoundsException` if there is no such setting",
            () -> outside(0, 2).forEach(setting ->
                refused("setting " + setting, full(), INDEX, x -> x.set(setting, 1))));
        edge("Throws `IllegalArgumentException` if value is out of range", () -> {
            outside(1, 3).forEach(value -> refused("setting 0: " + value, full(), ARGUMENT, x -> x.set(0, value)));
            outside(0, 1).forEach(value -> refused("setting 1: " + value, full(), ARGUMENT, x -> x.set(1, value)));
            outside(0, 1).forEach(value -> refused("setting 2: " + value, full(), ARGUMENT, x -> x.set(2, value)));
        });
    }

    private static void append() {
        section("Promise 9");
        edge("Appends a character to the buffer.", () -> {
            BottlePyramid x = typed("!");
            x.append('~');
            due("the digest with both in order", x.digest(), digestOf(full(), 0, "!~"));
        });
        edge("- `code`: the character code, 33 to 126", () -> {
            for (int code = 33; code <= 126; code++) {
                BottlePyramid x = full();
                x.append(code);
                due("the digest with " + code, x.digest(), digestOf(full(), 0, "" + (char) code));
            }
        });
        edge("Returns the new length of the buffer.", () -> {
            BottlePyramid x = full();
            range(1, 60).forEach(length -> due("the length", x.append('x'), length));
            x.clearBuffer();
            due("the length after clearing", x.append('x'), 1);
        });
        edge("Throws `IllegalArgumentException` if code is not 33 to 126",
            () -> outside(33, 126).stream().filter(code -> code < 33 || code > 126)
                .forEach(code -> refused("code " + code, full(), ARGUMENT, x -> x.append(code))));
        edge("Throws `IllegalStateException` if the buffer has 60 characters", () -> {
            refused("the 61st", typed("m".repeat(60)), STATE, x -> x.append('m'));
            refused("the 61st, the lowest code", typed("m".repeat(60)), STATE, x -> x.append(33));
            refused("the 61st, the highest code", typed("m".repeat(60)), STATE, x -> x.append(126));
            allowed("the 60th", typed("m".repeat(59)), x -> x.append('m'));
        });
    }

    private static void clearBuffer() {
        section("Promise 10");
        edge("Clears the buffer.", () -> {
            for (int length : new int[] {0, 1, 60}) {
                BottlePyramid x = typed("m".repeat(length));
                x.clearBuffer();
                due("the digest then", x.digest(), full().digest());
            }
        });
        edge("Returns the length that it had.", () -> {
            range(0, 60).forEach(length -> due("the length", typed("m".repeat(length)).clearBuffer(), length));
            BottlePyramid x = typed("m");
            x.obey();
            due("the length after obey()", x.clearBuffer(), 0);
        });
    }

    private static void firstError() {
        section("Promise 11");
        edge("Finds the first syntax error of the buffer.", () -> {
            due("of two errors", typed("m;x;x").firstError(), 2);
            due("of one behind what would be right alone", typed("m;k32;m").firstError(), 4);
            BottlePyramid x = typed("mx");
            x.firstError();
            due("the digest then", x.digest(), digestOf(full(), 0, "mx"));
        });
        edge("Returns the index of the first character that is a syntax error; the length of the buffer if there is"
            + " none.", () -> {
                due("of an empty buffer", full().firstError(), 0);
                due("of a wrong first character", typed(";").firstError(), 0);
                due("of a right one", typed("t").firstError(), 1);
                due("of a wrong last one of 60", typed("m;".repeat(29) + "m~").firstError(), 59);
                due("of 60 right ones", typed("m;".repeat(30)).firstError(), 60);
                due("of one that was cleared", cleared("xx").firstError(), 0);
            });
    }

    private static BottlePyramid cleared(String text) {
        BottlePyramid x = typed(text);
        x.clearBuffer();
        return x;
    }

    private static void obey() {
        section("Promise 12");
        edge("Does the orders in the buffer as the methods take(), knock(), put(), mirror() and refill() do, one after"
            + " the other, up to the first one that would throw an exception, and clears the buffer.",
            PromiseEdgeTest::obeyLikeTheMethods);
        edge("Undoable, as one call, also if none is done.", () -> {
            BottlePyramid x = typed("t01;k04;p00;m;r;p00;m");
            due("orders done", x.obey(), 5);
            due("saved states after some", x.count(9), 1);
            x.undo();
            due("the digest after undo", x.digest(), full().digest());
            typed(x, "p00").obey();
            due("saved states after none", x.count(9), 1);
            x.undo();
            due("the digest after undoing none", x.digest(), full().digest());
            BottlePyramid many = full();
            range(0, 4).forEach(row -> many.knock(4 - row, 0));
            many.turn(1);
            typed(many, "k01;k02;k03;k04").obey();
            due("saved states at most", many.count(9), 6);
            range(0, 5).forEach(left -> many.undo());
            due("bottles in the oldest state, of which one was dropped", many.count(1), 14);
        });
        edge("Returns how many are done.", () -> {
            due("none of one", typed("t02").obey(), 0);
            due("one of one", typed("t01").obey(), 1);
            due("all of 30", typed("m;".repeat(29) + "r").obey(), 30);
            due("one of two", typed("k40;k40").obey(), 1);
            due("none of two", typed("p40;k40").obey(), 0);
            due("all of 14, with thefts", typed("t01;t01;t01;t01;t01;r;t01;t01;t01;t01;t01;r;t01;t01").obey(), 14);
        });
        edge("Throws `IllegalArgumentException` if the buffer is not complete orders as a text", () -> {
            for (String text : List.of("", ";", "m;", "t", "t0", "k", "k0", "p", "p4", "t04", "t00", "t51", "k05",
                "k41", "p32", "p50", "mm", "m;;m", "x", "M", "t01m", "x;m", "xxm", "t00;;m", "mm;r", "k41;k40",
                "m;".repeat(30))) {
                refused("obey of \"" + text + "\"", typed(text), ARGUMENT, BottlePyramid::obey);
                due("the buffer, as it was", refusedObey(text).clearBuffer(), text.length());
            }
        });
    }

    private static BottlePyramid refusedObey(String text) {
        BottlePyramid x = typed(text);
        thrownBy(x, BottlePyramid::obey);
        return x;
    }

    private static void obeyLikeTheMethods() {
        BottlePyramid called = full();
        called.take(0, 1);
        called.take(3, 1);
        called.knock(0, 2);
        called.put(0, 0);
        called.mirror();
        BottlePyramid obeyed = after("t01;t31;k02;p00;m");
        due("all numbers", numbers(obeyed), numbers(called));
        called.refill();
        typed(obeyed, "r").obey();
        due("all numbers after a refill", numbers(obeyed), numbers(called));
        for (String wrong : List.of("t02", "t41", "k40", "p00", "p40")) {
            BottlePyramid x = full();
            x.take(4, 1);
            x.knock(0, 4);
            String before = numbers(x);
            due("orders done of " + wrong, typed(x, wrong + ";r").obey(), 0);
            due("all numbers after " + wrong, numbers(x), before);
            due("the buffer after " + wrong, x.clearBuffer(), 0);
        }
        BottlePyramid barred = withSettings(3, 1, 0);
        due("orders done up to a barred theft", typed(barred, "t41;t01;r").obey(), 1);
        due("bottles then", barred.count(1), 14);
    }

    private static void keep() {
        section("Promise 13");
        edge("Takes a snapshot of the state (of all that undo() would restore), in place of the one that was.", () -> {
            BottlePyramid x = withSettings(3, 0, 1);
            x.keep();
            x.take(0, 3);
            x.knock(0, 4);
            x.set(1, 1);
            String kept = numbers(x);
            x.keep();
            due("saved states after keep()", x.count(9), 6);
            range(1, 6).forEach(left -> x.undo());
            due("bottles after all undone", x.count(1), 15);
            x.goBack();
            due("all numbers", numbers(x), kept);
            BottlePyramid typing = typed("m");
            typing.keep();
            typing.append('x');
            typing.goBack();
            due("the buffer, which is not kept", typing.clearBuffer(), 2);
        });
        edge("Returns the pyramid, as a mask.", () -> {
            due("of none", heap().keep(), 0);
            due("of all", full().keep(), FULL);
            due("of the top alone missing", after("k40").keep(), FULL - bit(4, 0));
        });
    }

    private static void goBack() {
        section("Promise 14");
        edge("Goes back to the snapshot, which stays. Undoable.", () -> {
            BottlePyramid x = full();
            x.keep();
            String kept = numbers(x);
            for (int i = 1; i <= 4; i++) {
                x.knock(0, i);
                String before = numbers(x);
                x.goBack();
                due("all numbers", numbers(x), kept);
                x.undo();
                due("all numbers after undo", numbers(x), before);
                due("saved states", x.count(9), i);
            }
            undoes("goBack to the same", keptNow(), BottlePyramid::goBack);
        });
        edge("Returns the pyramid then, as a mask.", () -> {
            BottlePyramid empty = heap();
            empty.keep();
            empty.refill();
            due("of none", empty.goBack(), 0);
            BottlePyramid x = keptNow();
            x.knock(0, 0);
            due("of all", x.goBack(), FULL);
        });
        edge("Throws `IllegalStateException` if there is no snapshot", () -> {
            refused("of a new one", full(), STATE, BottlePyramid::goBack);
            refused("with saved states", after("m;m"), STATE, BottlePyramid::goBack);
            BottlePyramid x = after("m");
            x.keep();
            x.undo();
            allowed("with a snapshot from before an undo", x, BottlePyramid::goBack);
        });
    }

    private static BottlePyramid keptNow() {
        BottlePyramid x = full();
        x.keep();
        return x;
    }

    private static void undo() {
        section("Promise 15");
        edge("Restores the latest saved state, and drops it.", () -> {
            BottlePyramid x = full();
            x.knock(4, 0);
            x.knock(3, 0);
            x.undo();
            due("bottles after one", x.count(1), 14);
            x.undo();
            due("bottles after two", x.count(1), 15);
            x.knock(0, 0);
            x.undo();
            due("the digest after a call anew", x.digest(), full().digest());
        });
        edge("Returns how many saved states are left.", () -> {
            BottlePyramid x = full();
            range(1, 7).forEach(call -> x.turn(call % 2));
            range(1, 6).forEach(call -> due("saved states left", x.undo(), 6 - call));
            due("the last of one", after("m").undo(), 0);
        });
        edge("Throws `IllegalStateException` if there is none", () -> {
            refused("of a new one", full(), STATE, BottlePyramid::undo);
            refused("after what is not undoable", typed(keptNow(), "m"), STATE, BottlePyramid::undo);
            BottlePyramid x = after("m");
            x.undo();
            refused("after the last", x, STATE, BottlePyramid::undo);
        });
    }

    private static void row() {
        section("Promise 16");
        edge("- `row`: 0 to 4", () -> range(0, 4).forEach(row -> due("its bottles", full().row(row, 0), 5 - row)));
        edge("0: its bottles;", () -> {
            range(0, 4).forEach(row -> due("of none", heap().row(row, 0), 0));
            due("with gaps", heap(0, 2, 4).row(0, 0), 3);
            due("of the row 1", triangle(2, 1).row(1, 0), 2);
        });
        edge("1: the lowest place with a bottle, NONE without one;", () -> {
            range(0, 4).forEach(row -> due("of none", heap().row(row, 1), -1));
            range(0, 4).forEach(place -> due("of one", heap(place).row(0, 1), place));
            due("of two", heap(1, 4).row(0, 1), 1);
            due("of the row 1", triangle(2, 1).row(1, 1), 1);
            due("of the row 3", triangle(3, 1).row(3, 1), 1);
        });
        edge("2: the highest one, likewise;", () -> {
            range(0, 4).forEach(row -> due("of none", heap().row(row, 2), -1));
            range(0, 4).forEach(place -> due("of one", heap(place).row(0, 2), place));
            due("of two", heap(0, 3).row(0, 2), 3);
            due("of the row 1", triangle(2, 0).row(1, 2), 1);
            due("of all", full().row(0, 2), 4);
        });
        edge("3: the most bottles of a possible theft in this row, 0 if there is none;", () -> {
            due("of none", heap().row(0, 3), 0);
            due("of an empty row", heap(0, 1).row(1, 3), 0);
            due("fewer than the setting", withSettings(heap(0, 4), 3, 0, 0).row(0, 3), 2);
            due("as many as the setting", withSettings(heap(0, 2, 4), 3, 0, 0).row(0, 3), 3);
            due("more than the setting", withSettings(full(), 3, 0, 0).row(0, 3), 3);
            due("more than the setting of 1", full().row(0, 3), 1);
            due("all barred", withSettings(full(), 3, 1, 0).row(0, 3), 0);
            due("some barred", turned(withSettings(heap(0, 1, 2, 10), 3, 1, 0), 1).row(0, 3), 1);
            due("the top, which is never barred", withSettings(full(), 3, 1, 0).row(4, 3), 1);
        });
        edge("4: bottles taken from it so far;", () -> {
            range(0, 4).forEach(row -> due("at first", full().row(row, 4), 0));
            BottlePyramid x = withSettings(3, 0, 0);
            x.take(0, 3);
            x.refill();
            x.take(0, 2);
            due("by two thefts, with a refill", x.row(0, 4), 5);
            due("of the row above, which fell", x.row(1, 4), 0);
            due("by a knock", after("k00").row(0, 4), 0);
        });
        edge("5: bottles of it that were broken so far", () -> {
            range(0, 4).forEach(row -> due("at first", full().row(row, 5), 0));
            range(0, 4).forEach(row -> due("of all", heap().row(row, 5), 5 - row));
            due("by a theft, in its row", after("t01").row(0, 5), 0);
            due("by a theft, in the row above", after("t01").row(1, 5), 1);
            due("by a theft, at the top", after("t01").row(4, 5), 1);
            due("after a refill", after("k00;r;k00").row(4, 5), 2);
        });
        edge("Returns the number.", () -> {
            BottlePyramid x = after("t01");
            int[] due = {4, 1, 4, 1, 1, 0};
            range(0, 5).forEach(what -> due("row(0, " + what + ")", x.row(0, what), due[what]));
        });
        edge("Throws `IndexOutOfBoundsException` if there is no such row",
            () -> outside(0, 4).forEach(row -> refused("row " + row, full(), INDEX, x -> x.row(row, 0))));
        edge("Throws `IllegalArgumentException` if what is not 0 to 5",
            () -> outside(0, 5).forEach(what -> refused("what " + what, full(), ARGUMENT, x -> x.row(4, what))));
    }

    private static void count() {
        section("Promise 17");
        edge("0: the pyramid as a mask;", () -> {
            due("of none", heap().count(0), 0);
            due("of all", full().count(0), FULL);
        });
        edge("1: bottles in it;", () -> {
            due("of none", heap().count(1), 0);
            due("of one", heap(4).count(1), 1);
            due("of all", full().count(1), 15);
        });
        edge("2: the thief whose turn it is;", () -> {
            due("at first", full().count(2), 0);
            due("after a theft", after("t41").count(2), 1);
            due("after two thefts", after("t41;t31").count(2), 0);
        });
        edge("3: bottles that the thief 0 took so far;", () -> {
            due("at first", full().count(3), 0);
            due("by 3 at once and 1", manyTaken().count(3), 4);
            due("by the other", after("m;t41").count(3), 0);
        });
        edge("4: those that the thief 1 took so far;", () -> {
            due("at first", full().count(4), 0);
            due("by 2 at once", manyTaken().count(4), 2);
            due("by the other", after("t41").count(4), 0);
        });
        edge("5: bottles broken so far;", () -> {
            due("at first", full().count(5), 0);
            due("of all", heap().count(5), 15);
            due("of all, twice", after("k00;k01;k02;k03;k04;r;k00;k01;k02;k03;k04").count(5), 30);
            due("by a theft", after("t01").count(5), 4);
            due("by a theft of the top", after("t41").count(5), 0);
        });
        edge("6: thefts so far;", () -> {
            due("at first", full().count(6), 0);
            due("of more bottles than one", manyTaken().count(6), 3);
            due("by a knock", after("k40").count(6), 0);
            BottlePyramid x = heap();
            thrownBy(x, y -> y.take(0, 1));
            due("by a refused theft", x.count(6), 0);
        });
        edge("7: possible thefts now;", () -> {
            due("of none", heap().count(7), 0);
            due("of one", heap(2).count(7), 1);
            due("of one, up to 3", withSettings(heap(2), 3, 0, 0).count(7), 1);
            due("of all, 1 each", full().count(7), 5);
            due("of all, up to 2", withSettings(2, 0, 0).count(7), 9);
            due("of all, up to 3", withSettings(3, 0, 0).count(7), 12);
            due("of all, barred but the top", withSettings(3, 1, 0).count(7), 1);
        });
        edge("8: the thief who has won, if the game is over, otherwise NONE;", () -> {
            due("at first", full().count(8), -1);
            due("with a last bottle", heap(0).count(8), -1);
            due("who took the last", taken(heap(0)).count(8), 0);
            due("who did not take the last", taken(withSettings(heap(0), 1, 0, 1)).count(8), 1);
        });
        edge("9: saved states", () -> {
            BottlePyramid x = full();
            for (int calls = 0; calls <= 8; calls++) {
                due("saved states", x.count(9), Math.min(calls, 6));
                x.turn(0);
            }
        });
        edge("Returns the number.", () -> {
            BottlePyramid x = taken(full());
            int[] due = {11742, 10, 1, 1, 0, 4, 1, 4, -1, 1};
            range(0, 9).forEach(what -> due("count(" + what + ")", x.count(what), due[what]));
        });
        edge("Throws `IllegalArgumentException` if what is not 0 to 9",
            () -> outside(0, 9).forEach(what -> refused("what " + what, full(), ARGUMENT, x -> x.count(what))));
    }

    /** 3 by the thief 0, 2 by the thief 1, 1 by the thief 0, the pyramid filled after each. */
    private static BottlePyramid manyTaken() {
        BottlePyramid x = withSettings(3, 0, 0);
        x.take(0, 3);
        x.refill();
        x.turn(1);
        x.take(0, 2);
        x.refill();
        x.take(4, 1);
        return x;
    }

    private static BottlePyramid taken(BottlePyramid x) {
        x.take(0, 1);
        return x;
    }

    private static void setting() {
        section("Promise 18");
        edge("- `setting`: 0 to 2",
            () -> range(0, 2).forEach(setting -> allowed("setting " + setting, full(), x -> x.setting(setting))));
        edge("Returns its value.", () -> {
            int[] first = {1, 0, 0};
            int[] last = {3, 1, 1};
            BottlePyramid x = withSettings(3, 1, 1);
            range(0, 2).forEach(setting -> due("at first", full().setting(setting), first[setting]));
            range(0, 2).forEach(setting -> due("at most", x.setting(setting), last[setting]));
            range(1, 3).forEach(undone -> x.undo());
            range(0, 2).forEach(setting -> due("undone", x.setting(setting), first[setting]));
        });
        edge("Throws `IndexOutOfBoundsException` if there is no such setting",
            () -> outside(0, 2).forEach(setting ->
                refused("setting " + setting, full(), INDEX, x -> x.setting(setting))));
    }

    private static void why() {
        section("Promise 19");
        edge("- `row`: 0 to 4", () -> range(0, 4).forEach(row -> due("of one", full().why(row, 1), 0)));
        edge("- `bottles`: 1 to 5", () -> {
            int[] due = {0, 0, 0, 1, 1};
            BottlePyramid x = withSettings(3, 0, 0);
            range(1, 5).forEach(bottles -> due("of " + bottles, x.why(0, bottles), due[bottles - 1]));
        });
        edge("Returns 0 if it is possible; otherwise the first of these that is so: 1: bottles is above setting 0; 2:"
            + " there are not so many bottles in the row; 3: something would fall.", () -> {
                BottlePyramid x = withSettings(2, 1, 0);
                due("of the top", x.why(4, 1), 0);
                due("just above setting 0", x.why(0, 3), 1);
                due("above setting 0 and the row", x.why(4, 3), 1);
                due("as many as setting 0, more than the row", x.why(4, 2), 2);
                due("as many as setting 0 and the row", x.why(3, 2), 3);
                due("what would fall", x.why(0, 1), 3);
                due("what may fall", full().why(0, 1), 0);
                due("of none", withSettings(heap(), 1, 1, 0).why(0, 1), 2);
                due("two by one of the thief 1", turned(withSettings(heap(0, 1, 2, 10), 2, 1, 0), 1).why(0, 2), 3);
                due("one of the thief 1", turned(withSettings(heap(0, 1, 2, 10), 2, 1, 0), 1).why(0, 1), 0);
            });
        edge("Throws `IndexOutOfBoundsException` if there is no such row",
            () -> outside(0, 4).forEach(row -> refused("row " + row, full(), INDEX, x -> x.why(row, 1))));
        edge("Throws `IllegalArgumentException` if bottles is out of range",
            () -> outside(1, 5).forEach(bottles -> refused(bottles + "", full(), ARGUMENT, x -> x.why(0, bottles))));
    }

    private static void falls() {
        section("Promise 20");
        edge("Tells how many bottles would fall by a theft of the thief whose turn it is (also if it is barred, or"
            + " bottles is above setting 0).", () -> {
                due("by the thief 0", heap(0, 1, 2, 10).falls(0, 1), 1);
                due("by the thief 1", turned(heap(0, 1, 2, 10), 1).falls(0, 1), 0);
                due("barred", withSettings(1, 1, 0).falls(0, 1), 4);
                due("above setting 0", full().falls(0, 2), 7);
                due("above what setting 0 can be", full().falls(0, 4), 10);
                due("barred and above setting 0", withSettings(1, 1, 0).falls(1, 4), 6);
            });
        edge("- `row`: 0 to 4", () -> {
            int[] due = {4, 3, 2, 1, 0};
            range(0, 4).forEach(row -> due("by one", full().falls(row, 1), due[row]));
        });
        edge("- `bottles`: 1 to 5", () -> {
            int[] due = {4, 7, 9, 10, 10};
            range(1, 5).forEach(bottles -> due("by " + bottles, full().falls(0, bottles), due[bottles - 1]));
        });
        edge("Returns how many; NONE if there are not so many bottles in the row.", () -> {
            due("all of the row", heap(0, 1, 10).falls(0, 2), 1);
            due("one more than the row", heap(0, 1, 10).falls(0, 3), -1);
            due("of none", heap().falls(0, 1), -1);
            due("five of four", full().falls(1, 5), -1);
            due("the only one", heap(3).falls(0, 1), 0);
            due("two of the top", full().falls(4, 2), -1);
        });
        edge("Throws `IndexOutOfBoundsException` if there is no such row",
            () -> outside(0, 4).forEach(row -> refused("row " + row, full(), INDEX, x -> x.falls(row, 1))));
        edge("Throws `IllegalArgumentException` if bottles is out of range",
            () -> outside(1, 5).forEach(bottles -> refused(bottles + "", full(), ARGUMENT, x -> x.falls(0, bottles))));
    }

    private static void wins() {
        section("Promise 21");
        edge("- `thief`: 0 or 1: the thief whose turn it would be now", () -> {
            for (int turn = 0; turn <= 1; turn++) {
                BottlePyramid x = turned(heap(0, 1, 2, 10), turn);
                due("the thief 0 beside the upper one", x.wins(0), 1);
                due("the thief 1 on the other side", x.wins(1), 0);
            }
        });
        edge("Returns 1 if this thief wins the pyramid as it is, otherwise 0.", () -> {
            range(0, 1).forEach(thief -> due("of none", heap().wins(thief), 0));
            range(0, 1).forEach(thief -> due("of one", heap(4).wins(thief), 1));
            range(0, 1).forEach(thief -> due("of two", heap(0, 4).wins(thief), 0));
            range(0, 1).forEach(thief -> due("of none, won", withSettings(heap(), 3, 1, 1).wins(thief), 1));
            range(0, 1).forEach(thief -> due("of all", full().wins(thief), 1));
        });
        edge("Throws `IllegalArgumentException` if thief is out of range",
            () -> outside(0, 1).forEach(thief -> refused("thief " + thief, full(), ARGUMENT, x -> x.wins(thief))));
    }

    private static void best() {
        section("Promise 22");
        edge("10 times the row and the bottles of the one in the lowest row, of several of these the one of the fewest"
            + " bottles;", () -> {
                due("of the row 0", heap(0).best(), 1);
                due("of the row 1 alone", heap(0, 1, 10).best(), 11);
                due("of the top row alone", full().best(), 41);
                due("of the most bottles alone", withSettings(heap(0, 1, 2), 3, 0, 0).best(), 3);
                // From the left 1 or 2 below, or the one above: each leaves the thief 1 to lose.
                due("of the rows 0 and 1", withSettings(heap(0, 1, 2, 3, 12), 3, 1, 0).best(), 1);
                due("of the rows 0 and 1 for the thief 1",
                    turned(withSettings(heap(0, 1, 2, 3, 10), 3, 1, 0), 1).best(), 1);
                due("of the last for the thief 1", turned(heap(4), 1).best(), 1);
                due("of 2 and 3 bottles", withSettings(heap(0, 1, 2, 3, 4, 13), 3, 1, 0).best(), 2);
            });
        edge("NONE if there is none.", () -> {
            due("of none", heap().best(), -1);
            due("of none, won", withSettings(heap(), 1, 0, 1).best(), -1);
            due("of two, one by one", heap(0, 4).best(), -1);
            due("of the last, to lose", withSettings(heap(2), 3, 0, 1).best(), -1);
            due("of the thief 1 on the other side", turned(heap(0, 1, 2, 10), 1).best(), -1);
        });
    }

    private static void length() {
        section("Promise 23");
        edge("0: the most,", () -> {
            due("of one", heap(0).length(0), 1);
            due("of all", full().length(0), 15);
            due("of three in two rows", heap(0, 1, 10).length(0), 3);
            due("of all, barred", withSettings(3, 1, 0).length(0), 15);
        });
        edge("1: the fewest possible thefts, one after the other by turns, until the game is over", () -> {
            due("of one", heap(0).length(1), 1);
            due("of three in two rows", heap(0, 1, 10).length(1), 2);
            due("of three in two rows, up to 2", withSettings(heap(0, 1, 10), 2, 0, 0).length(1), 1);
            due("of three in two rows, barred", withSettings(heap(0, 1, 10), 2, 1, 0).length(1), 2);
            due("of all", full().length(1), 5);
            due("of all, up to 3", withSettings(3, 0, 0).length(1), 2);
        });
        edge("Returns how many, 0 if it is over.", () -> {
            for (int what = 0; what <= 1; what++) {
                due("of none", heap().length(what), 0);
                due("of none, won", withSettings(heap(), 3, 1, 1).length(what), 0);
                due("of none, for the thief 1", turned(heap(), 1).length(what), 0);
            }
        });
        edge("Throws `IllegalArgumentException` if what is not 0 or 1",
            () -> outside(0, 1).forEach(what -> refused("what " + what, full(), ARGUMENT, x -> x.length(what))));
    }

    private static void pyramids() {
        section("Promise 24");
        edge("Counts pyramids in which every bottle rests (also the one without bottles).",
            () -> due("all, by their bottom rows", full().pyramids(0), byBottomRows()));
        edge("0: all; 1: those that the thief 0 wins by the best play, if it is the turn of this thief; 2: likewise for"
            + " the thief 1; 3: those in which the game is over for both thieves, whoever's turn it is", () -> {
                for (int most = 1; most <= 3; most++) {
                    for (int barred = 0; barred <= 1; barred++) {
                        due("where it is over, the one without bottles", withSettings(most, barred, 0).pyramids(3), 1);
                    }
                }
                due("all, of a pyramid without bottles", heap().pyramids(0), 132);
                due("won with an odd number of bottles, by the thief 0", withSettings(1, 1, 0).pyramids(1), 66);
                due("won with an odd number of bottles, by the thief 1", withSettings(1, 1, 0).pyramids(2), 66);
            });
        edge("Returns how many.", () -> {
            for (int thief = 0; thief <= 1; thief++) {
                BottlePyramid x = turned(heap(), thief);
                due("won by the thief 0", x.pyramids(1), 81);
                due("won by the thief 1", x.pyramids(2), 81);
                due("won by the thief 0, up to 3", withSettings(x, 3, 0, 0).pyramids(1), 111);
            }
        });
        edge("Throws `IllegalArgumentException` if what is not 0 to 3",
            () -> outside(0, 3).forEach(what -> refused("what " + what, full(), ARGUMENT, x -> x.pyramids(what))));
    }

    /** A run of n bottles side by side carries pyramids like those of n - 1 places: 1, 2, 5, 14, 42, 132. */
    private static int byBottomRows() {
        int[] above = new int[6];
        above[0] = 1;
        for (int places = 1; places <= 5; places++) {
            for (int bits = 0; bits < 1 << places; bits++) {
                int product = 1;
                for (String run : Integer.toBinaryString(bits).split("0+")) {
                    product *= run.isEmpty() ? 1 : above[run.length() - 1];
                }
                above[places] += product;
            }
        }
        return above[5];
    }

    private static void brokenShare() {
        section("Promise 25");
        edge("Returns the bottles that were broken so far, as a double, divided by those that were broken or taken so"
            + " far;", () -> {
                due("none of one", after("t41").brokenShare(), 0.0);
                due("one of one", after("k40").brokenShare(), 1.0);
                due("one of two", after("t41;k30").brokenShare(), 0.5);
                due("four of five", after("t01").brokenShare(), 0.8);
                due("one of three", after("t41;t31;k30").brokenShare(), 1.0 / 3.0);
                due("one of three by the thief 1", after("m;t41;m;t31;k30").brokenShare(), 1.0 / 3.0);
                due("after a refill", after("t01;r").brokenShare(), 0.8);
            });
        edge("0.0 without any.", () -> {
            due("at first", full().brokenShare(), 0.0);
            due("after a turn", turned(full(), 1).brokenShare(), 0.0);
            BottlePyramid x = after("k00");
            x.undo();
            due("after undo", x.brokenShare(), 0.0);
        });
    }

    private static void wonShare() {
        section("Promise 26");
        edge("Returns pyramids(1) or pyramids(2), for the thief whose turn it is, as a float, divided by pyramids(0).",
            () -> {
                for (int thief = 0; thief <= 1; thief++) {
                    due("of 81", turned(full(), thief).wonShare(), 81 / 132.0f);
                    due("of half", turned(withSettings(1, 1, 0), thief).wonShare(), 0.5f);
                    due("of 125", turned(withSettings(heap(), 3, 0, 1), thief).wonShare(), 125 / 132.0f);
                }
            });
    }

    private static void digest() {
        section("Promise 27");
        edge("The hash starts at 3323.", () -> due("of a new one", full().digest(), hashed(full(), 0, "")));
        edge("the hash becomes 31 * hash + v, in long arithmetic with overflow.", () -> {
            BottlePyramid x = typed("z".repeat(60));
            due("of a full buffer", x.digest(), hashed(x, 0, "z".repeat(60)));
            due("whether one overflows below 0", range(0, 9).stream()
                .anyMatch(length -> typed("z".repeat(length)).digest() < 0), true);
        });
        edge("why and falls of 1, 2 and 3 bottles (why and falls of 1, then of 2, then of 3);", () -> {
            BottlePyramid x = withSettings(2, 1, 0);
            due("with bars", x.digest(), hashed(x, 0, ""));
            due("without bottles", heap().digest(), hashed(heap(), 0, ""));
        });
        edge("the bits of brokenShare (as Double.doubleToLongBits);", () -> {
            for (String orders : List.of("t41", "k40", "t41;k30", "t01", "t41;t31;k30", "t01;t01;t11;k03")) {
                due("after " + orders, after(orders).digest(), hashed(after(orders), 0, ""));
            }
            BottlePyramid x = after("k40");
            range(1, 100).forEach(theft -> {
                x.put(4, 0);
                x.take(4, 1);
            });
            due("of one of 101", x.digest(), hashed(x, 0, ""));
        });
        edge("the bits of wonShare (as Float.floatToIntBits);", () -> {
            for (int choice = 0; choice < 12; choice++) {
                BottlePyramid x = withSettings(1 + choice / 4, choice / 2 % 2, choice % 2);
                due("of the choice " + choice, x.digest(), hashed(x, 0, ""));
            }
        });
        edge("1 if there is a snapshot, otherwise 0;", () -> {
            due("with one", keptNow().digest(), hashed(full(), 1, ""));
            BottlePyramid x = keptNow();
            x.goBack();
            x.undo();
            due("with one that stays", x.digest(), hashed(full(), 1, ""));
        });
        edge("the length of the buffer and each of its character codes.", () -> {
            due("of an empty one", cleared("x~").digest(), hashed(full(), 0, ""));
            due("of one", typed("!").digest(), hashed(full(), 0, "!"));
            due("in order", typed("!~").digest(), hashed(full(), 0, "!~"));
            due("of 60", typed("m;".repeat(30)).digest(), hashed(full(), 0, "m;".repeat(30)));
        });
        edge("Returns the hash.", () -> due("twice the same", full().digest(), full().digest()));
    }

    /** By whole numbers of any size, so that no overflow is left to the test's own arithmetic. */
    private static long hashed(BottlePyramid x, int snapshots, String buffer) {
        BigInteger hash = BigInteger.valueOf(3323);
        for (long value : digested(x, snapshots, buffer)) {
            hash = hash.multiply(BigInteger.valueOf(31)).add(BigInteger.valueOf(value));
        }
        return hash.longValue();
    }
}
