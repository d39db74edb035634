import java.util.ArrayList;
import java.util.List;
import java.util.Map;
import java.util.TreeMap;
import java.util.function.Consumer;

/** The boundary cases that the document names ahead of its promises, a test a sentence. */
public final class TermsEdgeTest extends Edges {
    private static final int[] ROWS = {0, 0, 0, 0, 0, 1, 1, 1, 1, 2, 2, 2, 3, 3, 4};
    private static final int[] PLACES = {0, 1, 2, 3, 4, 0, 1, 2, 3, 0, 1, 2, 0, 1, 0};

    public static void main(String[] args) {
        life();
        face();
        pyramid();
        thefts();
        bestPlay();
        settings();
        inputText();
        undo();
        exceptions();
        endOfEdges();
    }

    private static void life() {
        section("What it is");
        edge("An object is used for at most 512 calls after it has been made", () -> {
            BottlePyramid x = full();
            for (int call = 1; call <= 510; call += 2) {
                x.take(0, 1);
                x.refill();
            }
            due("the 511th call", x.take(0, 1), 4);
            due("the 512th call", x.digest(), digestOf(x, 0, ""));
            due("broken by 256 thefts", x.count(5), 1024);
        });
    }

    private static void face() {
        section("Exceptions");
        edge("`NONE = -1`: There is nothing to return.", () -> {
            due("NONE", BottlePyramid.NONE, -1);
            due("the lowest place of an empty row", heap().row(0, 1), BottlePyramid.NONE);
        });
        edge("---- looks; nothing is changed.", () -> {
            for (Setup setup : List.of(Setup.FRESH, Setup.FULL_OF_STATES, Setup.EMPTY)) {
                unchanged(setup, "row", x -> everyRowLook(x));
                unchanged(setup, "count", x -> range(0, 9).forEach(x::count));
                unchanged(setup, "setting", x -> range(0, 2).forEach(x::setting));
                unchanged(setup, "why", x -> range(0, 4).forEach(row -> range(1, 5).forEach(n -> x.why(row, n))));
            }
        });
        edge("---- what would be; nothing is changed.", () -> {
            for (Setup setup : List.of(Setup.FRESH, Setup.FULL_OF_STATES, Setup.EMPTY)) {
                unchanged(setup, "falls", x -> range(0, 4).forEach(row -> range(1, 5).forEach(n -> x.falls(row, n))));
                unchanged(setup, "wins", x -> range(0, 1).forEach(x::wins));
                unchanged(setup, "best", BottlePyramid::best);
                unchanged(setup, "length", x -> range(0, 1).forEach(x::length));
                unchanged(setup, "pyramids", x -> range(0, 3).forEach(x::pyramids));
                unchanged(setup, "brokenShare", BottlePyramid::brokenShare);
                unchanged(setup, "wonShare", BottlePyramid::wonShare);
                unchanged(setup, "digest", BottlePyramid::digest);
            }
        });
    }

    private static void everyRowLook(BottlePyramid x) {
        range(0, 4).forEach(row -> range(0, 5).forEach(what -> x.row(row, what)));
    }

    private static void pyramid() {
        section("The pyramid");
        edge("There are 5 rows, numbered from 0 at the bottom.", () -> {
            due("bottles in the row 0", full().row(0, 0), 5);
            due("bottles in the row 4", full().row(4, 0), 1);
            refused("the row -1", full(), INDEX, x -> x.row(-1, 0));
            refused("the row 5", full(), INDEX, x -> x.row(5, 0));
        });
        edge("The row k has 5 - k places, numbered from 0 at the left.", () -> {
            for (int k = 0; k <= 4; k++) {
                int row = k;
                due("bottles in the row " + row, full().row(row, 0), 5 - row);
                allowed("the first place of the row " + row, full(), x -> x.knock(row, 0));
                allowed("the last place of the row " + row, full(), x -> x.knock(row, 4 - row));
                refused("a place ahead of the row " + row, full(), INDEX, x -> x.knock(row, -1));
                refused("a place behind the row " + row, full(), INDEX, x -> x.knock(row, 5 - row));
            }
            due("what the thief 0 leaves at the left", after("t01").row(0, 1), 1);
        });
        edge("At each place there is a bottle, as at first, or none.", () -> {
            for (int bit = 0; bit < 15; bit++) {
                int row = ROWS[bit];
                int place = PLACES[bit];
                BottlePyramid x = full();
                refused("one more at " + row + place, x, STATE, y -> y.put(row, place));
                allowed("the bottle at " + row + place, x, y -> y.knock(row, place));
                refused("no bottle at " + row + place, x, STATE, y -> y.knock(row, place));
            }
        });
        edge("The place i of a row above 0 lies on the places i and i + 1 of the row below.", () -> {
            for (int row = 1; row <= 4; row++) {
                for (int under = 0; under <= 5 - row; under++) {
                    BottlePyramid x = full();
                    x.knock(row - 1, under);
                    for (int i = 0; i <= 4 - row; i++) {
                        due("whether " + row + i + " stays without " + (row - 1) + under,
                            (x.count(0) & bit(row, i)) != 0, under != i && under != i + 1);
                    }
                }
            }
        });
        edge("A bottle rests if it is in the row 0, or if there is a bottle at both places on which its place lies.",
            () -> {
                range(0, 4).forEach(i -> due("the bottles with one in the row 0", heap().put(0, i), 1));
                due("the bottles with one on both", heap(0, 1).put(1, 0), 3);
                due("the bottles with one at the top", after("k40").put(4, 0), 15);
                refused("one on the left alone", heap(0), STATE, x -> x.put(1, 0));
                refused("one on the right alone", heap(1), STATE, x -> x.put(1, 0));
                refused("one on none", heap(2), STATE, x -> x.put(1, 0));
            });
        edge("The pyramid as a mask: the bits 0 to 4 are for the places 0 to 4 of the row 0, the bits 5 to 8 for those"
            + " of the row 1, 9 to 11 for the row 2, 12 and 13 for the row 3, and 14 for the row 4; a bit is 1 if"
            + " there is a bottle.", TermsEdgeTest::masks);
        edge("To let fall what does not rest: going through the rows from 1 to 4, each bottle that does not rest falls,"
            + " and is broken; those above are looked at without it.", () -> {
                BottlePyramid x = full();
                due("what falls from the rows 1 to 4", x.knock(0, 0), 4);
                range(0, 4).forEach(row -> due("broken of the row " + row, x.row(row, 5), 1));
                due("what falls beside the left slope", x.knock(0, 4), 3);
                due("what falls from the top", full().knock(4, 0), 0);
                due("bottles without both ends of the row 1", after("k10;k13").count(1), 15 - 4 - 3);
            });
    }

    private static void masks() {
        due("the mask without bottles", heap().count(0), 0);
        due("the mask with all", full().count(0), FULL);
        for (int bit = 0; bit < 15; bit++) {
            BottlePyramid x = triangle(ROWS[bit], PLACES[bit]);
            int with = x.count(0);
            x.undo();
            due("the bit of " + ROWS[bit] + PLACES[bit], with - x.count(0), 1 << bit);
        }
    }

    private static void thefts() {
        section("Thefts");
        edge("There are 2 thieves, 0 and 1, and it is the turn of one of them, at first of 0.", () -> {
            due("the turn at first", full().count(2), 0);
            due("the turn after turn(1)", turned(full(), 1).count(2), 1);
            refused("the thief -1", full(), ARGUMENT, x -> x.turn(-1));
            refused("the thief 2", full(), ARGUMENT, x -> x.turn(2));
        });
        edge("takes some bottles of one row, at least 1 and at most setting 0:", () -> {
            for (int setting = 1; setting <= 3; setting++) {
                int most = setting;
                BottlePyramid x = withSettings(most, 0, 0);
                refused("none of " + most, x, ARGUMENT, y -> y.take(0, 0));
                refused("more than " + most, x, ARGUMENT, y -> y.take(0, most + 1));
                allowed("all " + most, x, y -> y.take(0, most));
                allowed("one of " + most, x, y -> y.take(0, 1));
                due("what is left", x.row(0, 0), 4 - most);
            }
        });
        edge("the thief 0 those with the lowest places in the row, the thief 1 those with the highest ones (whether"
            + " there are gaps between them or not).", () -> {
                due("two of 0, 2, 4 for the thief 0", left(heap(0, 2, 4), 0, 2), 16);
                due("two of 0, 2, 4 for the thief 1", left(heap(0, 2, 4), 1, 2), 1);
                due("all of 0, 2, 4 for the thief 0", left(heap(0, 2, 4), 0, 3), 0);
                due("all of 0, 2, 4 for the thief 1", left(heap(0, 2, 4), 1, 3), 0);
                due("one of 1, 2, 3 for the thief 0", left(heap(1, 2, 3), 0, 1), 4 + 8);
                due("one of 1, 2, 3 for the thief 1", left(heap(1, 2, 3), 1, 1), 2 + 4);
                due("the only one for the thief 0", left(heap(4), 0, 1), 0);
                due("the only one for the thief 1", left(heap(0), 1, 1), 0);
            });
        edge("Then what does not rest falls, and it is the turn of the other thief.", () -> {
            BottlePyramid x = heap(0, 1, 2, 10, 11, 20);
            due("what falls by the thief 0", x.take(0, 1), 2);
            due("the turn after the thief 0", x.count(2), 1);
            due("what falls by the thief 1", x.take(0, 1), 1);
            due("the turn after the thief 1", x.count(2), 0);
            due("what falls by the last theft", x.take(0, 1), 0);
            due("what is left", x.count(0), 0);
        });
        edge("A theft is possible if there are so many bottles in the row, and, with setting 1 as 1, if nothing falls"
            + " by it.", () -> {
                BottlePyramid two = withSettings(heap(0, 2), 3, 1, 0);
                refused("3 of 2", two, STATE, x -> x.take(0, 3));
                allowed("2 of 2", two, x -> x.take(0, 2));
                refused("1 of none", two, STATE, x -> x.take(0, 1));
                BottlePyramid under = withSettings(heap(0, 1, 2, 10), 3, 1, 0);
                refused("one by which something falls", under, STATE, x -> x.take(0, 1));
                under.turn(1);
                refused("two by which something falls", under, STATE, x -> x.take(0, 2));
                allowed("one by which nothing falls", under, x -> x.take(0, 1));
                allowed("one that is not barred", withSettings(heap(0, 1, 10), 1, 0, 0), x -> x.take(0, 1));
            });
        edge("The game is over if no theft is possible for the thief whose turn it is.", () -> {
            for (int barred = 0; barred <= 1; barred++) {
                due("a game without bottles", withSettings(heap(), 1, barred, 0).count(8), 1);
                due("a game of one bottle", withSettings(heap(4), 1, barred, 0).count(8), -1);
                due("a game of one bottle on two", withSettings(heap(0, 1, 10), 3, barred, 0).count(8), -1);
                due("a full game", withSettings(full(), 1, barred, 0).count(8), -1);
            }
        });
        edge("With setting 2 as 0 the other thief has won then, with setting 2 as 1 the one whose turn it is.", () -> {
            due("lost by the thief 0", withSettings(heap(), 1, 0, 0).count(8), 1);
            due("lost by the thief 1", turned(withSettings(heap(), 1, 0, 0), 1).count(8), 0);
            due("won by the thief 0", withSettings(heap(), 1, 0, 1).count(8), 0);
            due("won by the thief 1", turned(withSettings(heap(), 1, 0, 1), 1).count(8), 1);
        });
    }

    private static int left(BottlePyramid x, int thief, int bottles) {
        x.set(0, 3);
        x.turn(thief);
        x.take(0, bottles);
        return x.count(0);
    }

    private static void bestPlay() {
        section("The best play");
        edge("if the game is over and this thief has won;", () -> {
            for (int thief = 0; thief <= 1; thief++) {
                due("over and lost", withSettings(heap(), 1, 0, 0).wins(thief), 0);
                due("over and won", withSettings(heap(), 1, 0, 1).wins(thief), 1);
            }
        });
        edge("or, if it is not over, if there is a possible theft behind which the other thief, whose turn it is then,"
            + " does not win.", () -> {
                for (int thief = 0; thief <= 1; thief++) {
                    due("the last bottle to win", withSettings(heap(2), 1, 0, 0).wins(thief), 1);
                    due("the last bottle to lose", withSettings(heap(2), 1, 0, 1).wins(thief), 0);
                    due("two bottles one by one", withSettings(heap(0, 4), 1, 0, 0).wins(thief), 0);
                    due("two bottles at once", withSettings(heap(0, 4), 2, 0, 0).wins(thief), 1);
                    due("three bottles, at most two", withSettings(heap(0, 2, 4), 2, 0, 0).wins(thief), 0);
                    due("three bottles, at most three", withSettings(heap(0, 2, 4), 3, 0, 0).wins(thief), 1);
                }
            });
        edge("All this is by the settings as they are.", () -> {
            BottlePyramid x = heap(0, 1, 2, 10);
            due("where the upper one may fall", x.wins(0), 1);
            x.set(1, 1);
            due("where it may not", x.wins(0), 0);
            x.set(2, 1);
            due("where the last one loses", x.wins(0), 1);
            x.undo();
            x.undo();
            due("as it was", x.wins(0), 1);
            due("as it was for the other", x.wins(1), 0);
            BottlePyramid two = heap(0, 4);
            due("one at a time", two.wins(0), 0);
            two.set(0, 2);
            due("two at a time", two.wins(0), 1);
            BottlePyramid changed = full();
            for (int choice = 0; choice < 24; choice++) {
                withSettings(changed, 1 + choice / 4 % 3, choice / 2 % 2, choice % 2);
                BottlePyramid fresh = withSettings(1 + choice / 4 % 3, choice / 2 % 2, choice % 2);
                due("what is won by the choice " + choice, changed.pyramids(1), fresh.pyramids(1));
                due("the best by the choice " + choice, changed.best(), fresh.best());
                due("the fewest thefts by the choice " + choice, changed.length(1), fresh.length(1));
            }
        });
    }

    private static void settings() {
        section("Settings");
        edge("0: the most bottles of a theft, 1 to 3, at first 1;", () -> settingOf(0, 1, 3, 1));
        edge("1: whether thefts by which something falls are barred (1) or not (0), at first 0;",
            () -> settingOf(1, 0, 1, 0));
        edge("2: who has won when the game is over, 0 or 1, at first 0.", () -> settingOf(2, 0, 1, 0));
    }

    private static void settingOf(int setting, int low, int high, int first) {
        due("the setting at first", full().setting(setting), first);
        for (int value = low; value <= high; value++) {
            BottlePyramid x = full();
            x.set(setting, value);
            due("the setting then", x.setting(setting), value);
        }
        refused("the value " + (low - 1), full(), ARGUMENT, x -> x.set(setting, low - 1));
        refused("the value " + (high + 1), full(), ARGUMENT, x -> x.set(setting, high + 1));
    }

    private static void inputText() {
        section("Input text");
        edge("The buffer has at most 60 characters.", () -> {
            BottlePyramid x = typed("m;".repeat(29) + "m");
            due("the 60th", x.append(';'), 60);
            refused("the 61st", x, STATE, y -> y.append('m'));
            due("the length", x.clearBuffer(), 60);
        });
        edge("Orders as a text are one or more parts with \";\" between them", () -> {
            for (String text : List.of("", ";", "m;", ";m", "m;;m", "mm", "mr", "k00r", "t01;")) {
                refused("obey of \"" + text + "\"", typed(text), ARGUMENT, BottlePyramid::obey);
            }
            due("orders done of one part", typed("m").obey(), 1);
            due("orders done of two parts", typed("m;r").obey(), 2);
            due("orders done of thirty parts", typed("m;".repeat(29) + "m").obey(), 30);
            follows("", "tkpmr");
            follows("m;", "tkpmr");
        });
        edge("\"t\", a row, 0 to 4, and bottles, 1 to 3 (a theft);", () -> {
            follows("t", "01234");
            range(0, 4).forEach(row -> follows("t" + row, "123"));
            follows("t43", ";");
        });
        edge("\"k\", a row, 0 to 4, and a place (a bottle is knocked out);", () -> {
            follows("k", "01234");
            follows("k40", ";");
        });
        edge("\"p\", a row, 0 to 4, and a place (a bottle is put there);", () -> {
            follows("p", "01234");
            follows("p04", ";");
        });
        edge("\"m\" (the pyramid is mirrored);", () -> follows("m", ";"));
        edge("\"r\" (it is filled again).", () -> follows("r", ";"));
        edge("A place is a digit from 0 to 4 less the row.", () -> {
            for (int row = 0; row <= 4; row++) {
                follows("k" + row, "01234".substring(0, 5 - row));
                follows("p" + row, "01234".substring(0, 5 - row));
            }
        });
        edge("The buffer is read from left to right; a character is a syntax error if no orders as a text, of any"
            + " length, begin with the characters before it and this character.", () -> {
                due("the error of two", typed("mxmx").firstError(), 1);
                due("the error at the first character", typed("xm").firstError(), 0);
                due("the error at the 60th character", typed("m;".repeat(29) + "mx").firstError(), 59);
                for (String cut : List.of("m;", "t0", "k4", "p1")) {
                    BottlePyramid x = typed("m;".repeat(29) + cut);
                    due("the error of what only a longer text goes on from", x.firstError(), 60);
                    refused("obey of what only a longer text goes on from", x, ARGUMENT, BottlePyramid::obey);
                }
            });
    }

    /** Just these characters may follow the text. */
    private static void follows(String text, String characters) {
        for (char code = 33; code <= 126; code++) {
            boolean fits = characters.indexOf(code) >= 0;
            due("the error of " + text + code, typed(text + code).firstError(), text.length() + (fits ? 1 : 0));
        }
    }

    private static void undo() {
        section("Undo");
        edge("Each method that is marked \"undoable\" and does not throw an exception saves the state from before it"
            + " (also if it changes nothing)", TermsEdgeTest::everyUndoable);
        edge("all, also what is counted so far, but the buffer, the snapshot and the saved states.", () -> {
            BottlePyramid x = withSettings(3, 1, 1);
            x.take(4, 1);
            x.knock(0, 4);
            String counted = numbers(x);
            x.set(0, 2);
            x.set(1, 0);
            x.set(2, 0);
            x.take(0, 2);
            x.keep();
            x.turn(1);
            typed(x, "m;r");
            for (int left = 5; left >= 1; left--) {
                due("saved states left", x.undo(), left);
            }
            due("all numbers, undone", numbers(x), counted);
            due("the snapshot, which is not undone", x.goBack(), heap(0, 1, 10).count(0));
            due("the buffer, which is not undone", x.clearBuffer(), 3);
        });
        edge("At most 6 states are saved; the oldest one is dropped first.", () -> {
            BottlePyramid x = full();
            for (int put = 1; put <= 5; put++) {
                x.knock(0, put - 1);
                due("saved states", x.count(9), put);
            }
            x.put(0, 0);
            due("saved states after the 6th", x.count(9), 6);
            x.put(0, 1);
            due("saved states after the 7th", x.count(9), 6);
            x.put(0, 2);
            due("saved states after the 8th", x.count(9), 6);
            List<BottlePyramid> before = List.of(
                heap(0, 1), heap(0), heap(), heap(4), heap(3, 4, 13), heap(2, 3, 4, 12, 13, 22));
            for (int i = 0; i < 6; i++) {
                due("saved states left", x.undo(), 5 - i);
                due("the pyramid then", x.count(0), before.get(i).count(0));
            }
            refused("a 7th undo", x, STATE, BottlePyramid::undo);
        });
    }

    private static void everyUndoable() {
        Map<String, Consumer<BottlePyramid>> calls = new TreeMap<>(Map.of(
            "take", x -> x.take(0, 1), "turn", x -> x.turn(1), "knock", x -> x.knock(0, 0),
            "put", x -> x.put(4, 0), "mirror", BottlePyramid::mirror, "refill", BottlePyramid::refill,
            "set", x -> x.set(2, 1), "obey", BottlePyramid::obey, "goBack", BottlePyramid::goBack));
        calls.forEach((name, call) -> {
            BottlePyramid x = readyForAll();
            String before = numbers(x);
            call.accept(x);
            due("whether " + name + " changes a number", numbers(x).equals(before), false);
            due("saved states after " + name, x.count(9), 2);
            x.undo();
            due("all numbers after undoing " + name, numbers(x), before);
        });
        Map<String, Consumer<BottlePyramid>> idle = new TreeMap<>(Map.of(
            "turn of the same", x -> x.turn(0), "set of the same", x -> x.set(0, 1),
            "refill of a full one", BottlePyramid::refill, "goBack to the same", BottlePyramid::goBack,
            "obey without an order done", BottlePyramid::obey));
        idle.forEach((name, call) -> {
            BottlePyramid x = typed("p00");
            x.keep();
            String before = numbers(x);
            call.accept(x);
            due("saved states after " + name, x.count(9), 1);
            due("all numbers after " + name, numbers(x), before);
        });
        Map<String, Consumer<BottlePyramid>> others = new TreeMap<>(Map.of(
            "append", x -> x.append('m'), "clearBuffer", BottlePyramid::clearBuffer,
            "firstError", BottlePyramid::firstError, "keep", BottlePyramid::keep));
        others.forEach((name, call) -> {
            BottlePyramid x = readyForAll();
            call.accept(x);
            due("saved states after " + name, x.count(9), 1);
        });
        refused("a call that throws", full(), STATE, x -> x.put(0, 0));
        due("saved states after a call that throws", refusedPut().count(9), 0);
    }

    /** With the top gone, an order in the buffer that can be done, and a snapshot that differs. */
    private static BottlePyramid readyForAll() {
        BottlePyramid x = full();
        x.keep();
        x.knock(4, 0);
        return typed(x, "t31");
    }

    private static BottlePyramid refusedPut() {
        BottlePyramid x = full();
        thrownBy(x, y -> y.put(0, 0));
        return x;
    }

    private static void exceptions() {
        section("Exceptions");
        edge("A call that throws an exception changes nothing.", () -> {
            for (Setup setup : List.of(Setup.TOPLESS, Setup.EMPTY, Setup.FULL_OF_STATES)) {
                wrongCalls().forEach((name, call) -> {
                    due("whether " + name + " throws", thrownBy(setup.made(), call).equals("nothing"), false);
                    unchanged(setup, name, call);
                });
            }
            refused("undo without a state", full(), STATE, BottlePyramid::undo);
            refused("goBack without a snapshot", after("m"), STATE, BottlePyramid::goBack);
            BottlePyramid x = typed("m;t0");
            refused("obey of a text cut off", x, ARGUMENT, BottlePyramid::obey);
            x.append('1');
            due("orders done of the text that stayed", x.obey(), 2);
        });
        edge("If several exceptions apply, the one that is named first in the throws clause is thrown.", () -> {
            BottlePyramid x = typed(heap(), "x".repeat(60));
            refused("take: row, bottles", x, INDEX, y -> y.take(5, 0));
            refused("take: row, bottles far off", x, INDEX, y -> y.take(LOW, HIGH));
            refused("take: bottles, not possible", x, ARGUMENT, y -> y.take(0, 2));
            refused("take: no bottles, not possible", x, ARGUMENT, y -> y.take(0, 0));
            refused("knock: place, no bottle", x, INDEX, y -> y.knock(0, 5));
            refused("knock: row, no bottle", x, INDEX, y -> y.knock(-1, 0));
            refused("put: place, in the air", x, INDEX, y -> y.put(1, 4));
            refused("put: row, in the air", x, INDEX, y -> y.put(5, 0));
            refused("set: setting, value", x, INDEX, y -> y.set(3, 4));
            refused("set: setting below, value", x, INDEX, y -> y.set(-1, -1));
            refused("append: code, full", x, ARGUMENT, y -> y.append(32));
            refused("append: code above, full", x, ARGUMENT, y -> y.append(127));
            refused("row: row, what", x, INDEX, y -> y.row(5, 6));
            refused("row: row below, what", x, INDEX, y -> y.row(-1, -1));
            refused("why: row, bottles", x, INDEX, y -> y.why(5, 0));
            refused("why: row below, bottles", x, INDEX, y -> y.why(-1, 6));
            refused("falls: row, bottles", x, INDEX, y -> y.falls(5, 0));
            refused("falls: row below, bottles", x, INDEX, y -> y.falls(-1, 6));
        });
    }

    /** Calls that throw after each setup. */
    private static Map<String, Consumer<BottlePyramid>> wrongCalls() {
        Map<String, Consumer<BottlePyramid>> calls = new TreeMap<>();
        calls.put("take of no row", x -> x.take(5, 1));
        calls.put("take of no bottles", x -> x.take(0, 0));
        calls.put("take of too many", x -> x.take(0, 4));
        calls.put("take from an empty row", x -> x.take(4, 1));
        calls.put("turn", x -> x.turn(2));
        calls.put("knock of no row", x -> x.knock(5, 0));
        calls.put("knock of no place", x -> x.knock(1, 4));
        calls.put("knock without a bottle", x -> x.knock(4, 0));
        calls.put("put into no row", x -> x.put(-1, 0));
        calls.put("put at no place", x -> x.put(0, 5));
        calls.put("put in the air", x -> x.put(4, 0));
        calls.put("set of no setting", x -> x.set(3, 1));
        calls.put("set of a wrong value", x -> x.set(0, 4));
        calls.put("append of a wrong code", x -> x.append(127));
        calls.put("obey", BottlePyramid::obey);
        calls.put("row of no row", x -> x.row(5, 0));
        calls.put("row of nothing", x -> x.row(0, 6));
        calls.put("count", x -> x.count(10));
        calls.put("setting", x -> x.setting(3));
        calls.put("why of no row", x -> x.why(5, 1));
        calls.put("why of no bottles", x -> x.why(0, 0));
        calls.put("falls of no row", x -> x.falls(5, 1));
        calls.put("falls of no bottles", x -> x.falls(0, 0));
        calls.put("wins", x -> x.wins(2));
        calls.put("length", x -> x.length(2));
        calls.put("pyramids", x -> x.pyramids(4));
        return calls;
    }

    /** States to compare an object in with its twin that had a call more; the top is gone in each but the first. */
    private enum Setup {
        FRESH(x -> { }),
        TOPLESS(x -> x.take(3, 1)),
        EMPTY(x -> range(0, 4).forEach(place -> x.knock(0, place))),
        FULL_OF_STATES(x -> {
            x.take(0, 1);
            x.set(0, 3);
            x.keep();
            x.set(2, 1);
            x.knock(1, 1);
            x.turn(0);
            x.take(0, 2);
            x.mirror();
            typed(x, "m;t05".repeat(12));
        });

        private final Consumer<BottlePyramid> calls;

        Setup(Consumer<BottlePyramid> calls) {
            this.calls = calls;
        }

        BottlePyramid made() {
            BottlePyramid x = full();
            calls.accept(x);
            return x;
        }
    }

    /** What the call leaves must be the same as without it, down to the last saved state and the snapshot. */
    private static void unchanged(Setup setup, String name, Consumer<BottlePyramid> call) {
        BottlePyramid x = setup.made();
        thrownBy(x, call);
        due("all that stands after " + name, trail(x), trail(setup.made()));
    }

    private static List<Long> trail(BottlePyramid x) {
        List<Long> digests = new ArrayList<>(List.of(x.digest()));
        while (x.count(9) > 0) {
            x.undo();
            digests.add(x.digest());
        }
        thrownBy(x, BottlePyramid::goBack);
        digests.add(x.digest());
        return digests;
    }
}
