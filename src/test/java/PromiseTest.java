/** One method a promise of the document: ordinary calls, the edges that it names, wrong calls. */
public final class PromiseTest extends Check {
    private static int promise = 0;

    public static void main(String[] args) {
        Runnable[] promises = {
            PromiseTest::newObject, PromiseTest::take, PromiseTest::turn, PromiseTest::knock, PromiseTest::put,
            PromiseTest::mirror, PromiseTest::refill, PromiseTest::set, PromiseTest::append,
            PromiseTest::clearBuffer, PromiseTest::firstError, PromiseTest::obey, PromiseTest::keep,
            PromiseTest::goBack, PromiseTest::undo, PromiseTest::row, PromiseTest::count, PromiseTest::setting,
            PromiseTest::why, PromiseTest::falls, PromiseTest::wins, PromiseTest::best, PromiseTest::length,
            PromiseTest::pyramids, PromiseTest::brokenShare, PromiseTest::wonShare, PromiseTest::digest};
        for (Runnable one : promises) {
            promise++;
            at("promise " + promise);
            one.run();
        }
        end(promise + " promises");
    }

    private static void newObject() {
        BottlePyramid x = new BottlePyramid();
        int[] counts = {32767, 15, 0, 0, 0, 0, 0, 5, -1, 0};
        for (int what = 0; what < counts.length; what++) {
            due("count(" + what + ")", x.count(what), counts[what]);
        }
        due("the most bottles", x.setting(0), 1);
        due("barred", x.setting(1), 0);
        due("who has won", x.setting(2), 0);
        due("the buffer", x.clearBuffer(), 0);
        refused("goBack without a snapshot", x, STATE, BottlePyramid::goBack);
        refused("undo without a state", x, STATE, BottlePyramid::undo);
    }

    private static void take() {
        BottlePyramid x = new BottlePyramid();
        due("the thief 0 takes at the left", x.take(0, 1), 4);
        due("what is left", x.count(0), 32767 & ~(1 | 1 << 5 | 1 << 9 | 1 << 12 | 1 << 14));
        due("the turn then", x.count(2), 1);
        due("the thief 1 takes at the right", x.take(1, 1), 2);
        due("what is left", x.count(0), 0b0_00_010_0110_11110);
        due("thefts", x.count(6), 2);
        BottlePyramid gap = after("k02");
        gap.set(0, 3);
        due("a theft over a gap", gap.take(0, 3), 2);
        due("what is left of it", gap.count(0), 1 << 4);
        due("all bottles of a row", after("t41;t31;t31").take(2, 1), 0);
        BottlePyramid barred = withSettings(2, 1, 0);
        refused("a barred theft", barred, STATE, y -> y.take(0, 1));
        refused("a theft of too many in the row", barred, STATE, y -> y.take(4, 2));
        due("a theft with nothing on it", barred.take(4, 1), 0);
        refused("take of row -1", x, INDEX, y -> y.take(-1, 0));
        refused("take of row 5", x, INDEX, y -> y.take(5, 1));
        refused("take of a far row", x, INDEX, y -> y.take(HIGH, LOW));
        refused("take of a low row", x, INDEX, y -> y.take(LOW, 1));
        refused("take of 0", x, ARGUMENT, y -> y.take(4, 0));
        refused("take of 2 with 1 at most", x, ARGUMENT, y -> y.take(4, 2));
        refused("take of very many", x, ARGUMENT, y -> y.take(0, HIGH));
        refused("take from an empty row", x, STATE, y -> y.take(4, 1));
        refused("4 with 3 at most", withSettings(3, 0, 0), ARGUMENT, y -> y.take(0, 4));
        undoes("take", new BottlePyramid(), y -> y.take(0, 1));
    }

    private static void turn() {
        BottlePyramid x = new BottlePyramid();
        due("the thief before", x.turn(1), 0);
        due("the turn then", x.count(2), 1);
        due("the same again", x.turn(1), 1);
        due("saved states", x.count(9), 2);
        due("back", x.turn(0), 1);
        refused("turn(-1)", x, ARGUMENT, y -> y.turn(-1));
        refused("turn(2)", x, ARGUMENT, y -> y.turn(2));
        undoes("turn", x, y -> y.turn(1));
    }

    private static void knock() {
        BottlePyramid x = new BottlePyramid();
        due("the top", x.knock(4, 0), 0);
        due("the middle of the bottom", x.knock(0, 2), 7);
        due("the turn stays", x.count(2), 0);
        due("broken", x.count(5), 9);
        due("broken of the row 0", x.row(0, 5), 1);
        due("broken of the row 1", x.row(1, 5), 2);
        due("taken", x.count(3), 0);
        due("thefts", x.count(6), 0);
        refused("a bottle that is gone", x, STATE, y -> y.knock(0, 2));
        refused("row -1", x, INDEX, y -> y.knock(-1, 0));
        refused("row 5", x, INDEX, y -> y.knock(5, 0));
        refused("place -1", x, INDEX, y -> y.knock(0, -1));
        refused("place 5 of row 0", x, INDEX, y -> y.knock(0, 5));
        refused("place 1 of row 4", x, INDEX, y -> y.knock(4, 1));
        refused("place 4 of row 1", x, INDEX, y -> y.knock(1, 4));
        refused("a far place", x, INDEX, y -> y.knock(HIGH, HIGH));
        refused("a low place", x, INDEX, y -> y.knock(1, LOW));
        undoes("knock", new BottlePyramid(), y -> y.knock(1, 1));
    }

    private static void put() {
        BottlePyramid x = after("k00;k04");
        due("a bottle in the row 0", x.put(0, 0), 7);
        due("one on two others", x.put(1, 0), 8);
        due("what is there", x.count(0), 0b0_00_010_0111_01111);
        due("broken stays", x.count(5), 9);
        due("the turn stays", x.count(2), 0);
        due("one with nothing above", after("k11").put(1, 1), 10);
        due("the top", after("k40").put(4, 0), 15);
        refused("a bottle on another", x, STATE, y -> y.put(0, 0));
        refused("without its right rest", x, STATE, y -> y.put(1, 3));
        refused("without its left rest", after("k00"), STATE, y -> y.put(1, 0));
        refused("in the air", x, STATE, y -> y.put(4, 0));
        refused("row -1", x, INDEX, y -> y.put(-1, 0));
        refused("row 5", x, INDEX, y -> y.put(5, 0));
        refused("place -1", x, INDEX, y -> y.put(0, -1));
        refused("place 5 of row 0", x, INDEX, y -> y.put(0, 5));
        refused("place 1 of row 4", x, INDEX, y -> y.put(4, 1));
        refused("a far place", x, INDEX, y -> y.put(0, HIGH));
        undoes("put", x, y -> y.put(0, 4));
    }

    private static void mirror() {
        BottlePyramid x = new BottlePyramid();
        due("a full one", x.mirror(), 32767);
        due("the turn then", x.count(2), 1);
        due("a lopsided one", after("k00").mirror(), 0b0_01_011_0111_01111);
        due("with rows of their own", after("k01;k04").mirror(), 0b0_00_000_0010_10110);
        BottlePyramid y = after("t01;m;m");
        due("the turn after two", y.count(2), 1);
        due("the pyramid after two", y.count(0), 11742);
        due("what was taken stays", y.row(0, 4), 1);
        undoes("mirror", y, BottlePyramid::mirror);
    }

    private static void refill() {
        BottlePyramid x = after("t01");
        due("bottles that come", x.refill(), 5);
        due("the pyramid", x.count(0), 32767);
        due("the turn", x.count(2), 0);
        due("broken stays", x.count(5), 4);
        due("taken stays", x.count(3), 1);
        due("thefts stay", x.count(6), 1);
        due("none comes", x.refill(), 0);
        due("saved states", x.count(9), 3);
        x.turn(1);
        x.refill();
        due("the turn of a full one", x.count(2), 0);
        due("all come", after("k00;k01;k02;k03;k04").refill(), 15);
        undoes("refill", after("t01"), BottlePyramid::refill);
    }

    private static void set() {
        BottlePyramid x = new BottlePyramid();
        due("set(0, 3)", x.set(0, 3), 1);
        due("set(0, 2)", x.set(0, 2), 3);
        due("set(1, 1)", x.set(1, 1), 0);
        due("set(2, 1)", x.set(2, 1), 0);
        due("set(2, 1) again", x.set(2, 1), 1);
        due("saved states", x.count(9), 5);
        due("setting 0", x.setting(0), 2);
        due("setting 1", x.setting(1), 1);
        due("setting 2", x.setting(2), 1);
        refused("setting -1", x, INDEX, y -> y.set(-1, 9));
        refused("setting 3", x, INDEX, y -> y.set(3, 1));
        refused("a far setting", x, INDEX, y -> y.set(HIGH, 1));
        refused("set(0, 0)", x, ARGUMENT, y -> y.set(0, 0));
        refused("set(0, 4)", x, ARGUMENT, y -> y.set(0, 4));
        refused("set(1, -1)", x, ARGUMENT, y -> y.set(1, -1));
        refused("set(1, 2)", x, ARGUMENT, y -> y.set(1, 2));
        refused("set(2, 2)", x, ARGUMENT, y -> y.set(2, 2));
        refused("set(2, low)", x, ARGUMENT, y -> y.set(2, LOW));
        undoes("set", x, y -> y.set(0, 1));
    }

    private static void append() {
        BottlePyramid x = new BottlePyramid();
        due("the first", x.append(33), 1);
        due("the second", x.append(126), 2);
        refused("32", x, ARGUMENT, y -> y.append(32));
        refused("127", x, ARGUMENT, y -> y.append(127));
        refused("a low code", x, ARGUMENT, y -> y.append(LOW));
        refused("a code that is 't' as a char", x, ARGUMENT, y -> y.append(65536 + 't'));
        for (int i = 3; i <= 60; i++) {
            due("character " + i, x.append('m'), i);
        }
        refused("the 61st", x, STATE, y -> y.append('m'));
        refused("a wrong 61st", x, ARGUMENT, y -> y.append(32));
        due("saved states", x.count(9), 0);
    }

    private static void clearBuffer() {
        BottlePyramid x = typed("t01");
        due("the length", x.clearBuffer(), 3);
        due("the length then", x.clearBuffer(), 0);
        due("saved states", x.count(9), 0);
        due("a new character", x.append('m'), 1);
        due("full", typed("m;".repeat(30)).clearBuffer(), 60);
    }

    private static void firstError() {
        String[] right = {"", "t", "t0", "t43", "k", "k4", "k40", "k04", "p13", "p22", "p31", "m", "r", "m;", "r;t",
            "t01;k10;p10;m;r", "m;".repeat(30)};
        for (String text : right) {
            due("firstError of " + text, typed(text).firstError(), text.length());
        }
        String[] wrongAtEnd = {";", "T", "1", "x", "!", "~", "t5", "t;", "t00", "t04", "t0;", "tt", "k5", "k41", "k32",
            "k23", "k14", "k05", "k0;", "p41", "p14", "p05", "m;;", "mr", "m1", "rr", "t011", "k000", "t01;;", "k00t"};
        for (String text : wrongAtEnd) {
            due("firstError of " + text, typed(text).firstError(), text.length() - 1);
            due("firstError of more than " + text, typed(text + "m;").firstError(), text.length() - 1);
        }
        BottlePyramid x = typed("m;t01x");
        long before = x.digest();
        x.firstError();
        due("the digest after firstError", x.digest(), before);
    }

    private static void obey() {
        BottlePyramid x = typed("t01;t01;k02;p04;m;r");
        due("all of them", x.obey(), 6);
        due("the buffer", x.clearBuffer(), 0);
        due("saved states", x.count(9), 1);
        due("thefts", x.count(6), 2);
        due("taken by 0", x.count(3), 1);
        due("broken", x.count(5), 4 + 3 + 1 + 3);
        due("saved states after undo", x.undo(), 0);
        due("the pyramid after undo", x.count(0), 32767);
        due("broken after undo", x.count(5), 0);
        due("up to a theft above setting 0", typed("m;t02;m").obey(), 1);
        due("up to a theft from an empty row", typed("k40;t41;m").obey(), 1);
        due("up to a bottle that is gone", typed("k40;k40;m").obey(), 1);
        due("up to a bottle in the way", typed("m;m;p00;m").obey(), 2);
        due("up to a bottle in the air", typed("k00;p10").obey(), 1);
        BottlePyramid barred = withSettings(3, 1, 0);
        due("up to a barred theft", typed(barred, "t41;t01;m").obey(), 1);
        BottlePyramid none = typed("p00");
        due("none", none.obey(), 0);
        due("saved states of none", none.count(9), 1);
        due("the buffer of none", none.clearBuffer(), 0);
        for (String text : new String[] {"", "t", "t0", "k4", "m;", "t05", "x", "m;;m", ";", "mm", "k41"}) {
            refused("obey of " + text, typed(text), ARGUMENT, BottlePyramid::obey);
        }
        due("the buffer of a refused one", typed("m;").clearBuffer(), 2);
        due("30 orders", typed("m;".repeat(29) + "m").obey(), 30);
    }

    private static void keep() {
        BottlePyramid x = after("t01");
        due("the mask", x.keep(), 11742);
        due("saved states", x.count(9), 1);
        x.knock(0, 4);
        due("the mask of another", x.keep(), x.count(0));
        int kept = x.count(0);
        x.refill();
        due("the later one", x.goBack(), kept);
        BottlePyramid bare = new BottlePyramid();
        long before = bare.digest();
        bare.keep();
        due("that the digest tells of a snapshot", bare.digest() != before, true);
    }

    private static void goBack() {
        BottlePyramid x = new BottlePyramid();
        x.take(0, 1);
        x.set(0, 2);
        x.keep();
        x.set(0, 3);
        x.set(2, 1);
        x.take(0, 3);
        x.append('m');
        due("the mask", x.goBack(), 11742);
        due("the setting 0", x.setting(0), 2);
        due("the setting 2", x.setting(2), 0);
        due("thefts", x.count(6), 1);
        due("broken", x.count(5), 4);
        due("the turn", x.count(2), 1);
        due("the buffer, which stays", x.clearBuffer(), 1);
        due("saved states", x.count(9), 6);
        due("again", x.goBack(), 11742);
        while (x.count(9) > 1) {
            x.undo();
        }
        due("the most bottles at the snapshot", x.setting(0), 2);
        BottlePyramid late = new BottlePyramid();
        late.keep();
        undoes("goBack", late, BottlePyramid::goBack);
        late.turn(1);
        late.undo();
        due("that undo keeps the snapshot", late.goBack(), 32767);
        refused("goBack without a snapshot", after("m"), STATE, BottlePyramid::goBack);
    }

    private static void undo() {
        BottlePyramid y = new BottlePyramid();
        for (int i = 1; i <= 8; i++) {
            y.take(0, 1);
            y.refill();
        }
        due("at most 6", y.count(9), 6);
        due("thefts", y.count(6), 8);
        for (int left = 5; left >= 0; left--) {
            due("states left", y.undo(), left);
            due("thefts then", y.count(6), 5 + (left + 1) / 2);
            due("the pyramid then", y.count(1), left % 2 == 1 ? 10 : 15);
        }
        refused("a seventh undo", y, STATE, BottlePyramid::undo);
        due("that what is dropped is gone", y.count(6), 5);
        BottlePyramid typing = typed("m");
        typing.set(0, 3);
        typing.append(';');
        typing.undo();
        due("the buffer, which stays", typing.clearBuffer(), 2);
        due("the setting", typing.setting(0), 1);
    }

    private static void row() {
        BottlePyramid x = after("k02;t01");
        int[][] numbers = {
            {3, 1, 4, 1, 1, 1}, {1, 3, 3, 1, 0, 3}, {0, -1, -1, 0, 0, 3}, {0, -1, -1, 0, 0, 2}, {0, -1, -1, 0, 0, 1}};
        for (int row = 0; row < 5; row++) {
            for (int what = 0; what <= 5; what++) {
                due("row(" + row + ", " + what + ")", x.row(row, what), numbers[row][what]);
            }
        }
        BottlePyramid full = new BottlePyramid();
        for (int row = 0; row < 5; row++) {
            due("the lowest place of the row " + row, full.row(row, 1), 0);
            due("the highest place of the row " + row, full.row(row, 2), 4 - row);
        }
        due("taken from the row 0 in all", after("t01;t01;m;t01").row(0, 4), 3);
        due("broken of the row 1 in all", after("t01;t01;m;t01").row(1, 5), 3);
        BottlePyramid wide = withSettings(3, 0, 0);
        due("3 of the row 2", wide.row(2, 3), 3);
        due("2 of the row 3", wide.row(3, 3), 2);
        due("1 of the row 4", wide.row(4, 3), 1);
        wide.set(1, 1);
        due("none of a row under others", wide.row(0, 3), 0);
        wide.knock(0, 1);
        due("one beside the others", wide.row(0, 3), 1);
        wide.turn(1);
        due("none from the other side", wide.row(0, 3), 0);
        wide.take(2, 1);
        wide.turn(1);
        due("from the row 1", wide.row(1, 3), 2);
        due("taken from the row 2", wide.row(2, 4), 1);
        refused("row -1", x, INDEX, y -> y.row(-1, 9));
        refused("row 5", x, INDEX, y -> y.row(5, 0));
        refused("a far row", x, INDEX, y -> y.row(HIGH, 0));
        refused("what -1", x, ARGUMENT, y -> y.row(0, -1));
        refused("what 6", x, ARGUMENT, y -> y.row(0, 6));
    }

    private static void count() {
        BottlePyramid x = after("t01;t01;t11;k03");
        int[] counts = {0b0_00_000_0000_00110, 2, 1, 2, 1, 10, 3, 1, -1, 1};
        for (int what = 0; what < counts.length; what++) {
            due("count(" + what + ")", x.count(what), counts[what]);
        }
        x.set(0, 3);
        due("possible thefts of up to 3", x.count(7), 2);
        x.take(0, 2);
        due("bottles when it is over", x.count(1), 0);
        due("possible thefts when it is over", x.count(7), 0);
        due("who has won by the last theft", x.count(8), 1);
        x.set(2, 1);
        due("who has lost by the last theft", x.count(8), 0);
        x.turn(1);
        due("the other turn", x.count(8), 1);
        x.set(2, 0);
        due("the other turn after the last theft", x.count(8), 0);
        due("taken by the thief 0", after("t41;t31;t31;t21").count(3), 2);
        due("taken by the thief 1", after("t41;t31;t31;t21").count(4), 2);
        due("taken by the thief 1 alone", after("m;t41;m;m;t31").count(4), 1);
        due("all thefts of up to 3", withSettings(3, 0, 0).count(7), 3 + 3 + 3 + 2 + 1);
        due("barred but one", withSettings(3, 1, 0).count(7), 1);
        refused("count(-1)", x, ARGUMENT, y -> y.count(-1));
        refused("count(10)", x, ARGUMENT, y -> y.count(10));
    }

    private static void setting() {
        BottlePyramid x = withSettings(3, 1, 0);
        due("setting(0)", x.setting(0), 3);
        due("setting(1)", x.setting(1), 1);
        due("setting(2)", x.setting(2), 0);
        refused("setting(-1)", x, INDEX, y -> y.setting(-1));
        refused("setting(3)", x, INDEX, y -> y.setting(3));
        refused("setting(high)", x, INDEX, y -> y.setting(HIGH));
    }

    private static void why() {
        BottlePyramid x = withSettings(2, 1, 0);
        due("possible", x.why(4, 1), 0);
        due("above setting 0, before all else", x.why(4, 3), 1);
        due("5", x.why(0, 5), 1);
        due("not so many", x.why(4, 2), 2);
        due("something would fall", x.why(0, 2), 3);
        x.set(1, 0);
        due("what may fall", x.why(0, 2), 0);
        x.set(1, 1);
        x.knock(0, 1);
        due("nothing on the left one", x.why(0, 1), 0);
        due("something on the next one", x.why(0, 2), 3);
        x.turn(1);
        due("something on the right one", x.why(0, 1), 3);
        refused("row -1", x, INDEX, y -> y.why(-1, 0));
        refused("row 5", x, INDEX, y -> y.why(5, 1));
        refused("0 bottles", x, ARGUMENT, y -> y.why(0, 0));
        refused("6 bottles", x, ARGUMENT, y -> y.why(0, 6));
    }

    private static void falls() {
        BottlePyramid x = withSettings(1, 1, 0);
        int[] bottom = {4, 7, 9, 10, 10};
        for (int bottles = 1; bottles <= 5; bottles++) {
            due("falls(0, " + bottles + ")", x.falls(0, bottles), bottom[bottles - 1]);
        }
        due("one of the row 3", x.falls(3, 1), 1);
        due("three of the row 3", x.falls(3, 3), -1);
        due("the top", x.falls(4, 1), 0);
        due("five of the row 1", x.falls(1, 5), -1);
        due("four of the row 1", x.falls(1, 4), 6);
        x.knock(0, 1);
        due("from the left", x.falls(0, 1), 0);
        x.turn(1);
        due("from the right", x.falls(0, 1), 2);
        due("over the gap", x.falls(0, 4), 3);
        due("above what is there", x.falls(0, 5), -1);
        refused("row -1", x, INDEX, y -> y.falls(-1, 0));
        refused("row 5", x, INDEX, y -> y.falls(5, 1));
        refused("0 bottles", x, ARGUMENT, y -> y.falls(0, 0));
        refused("6 bottles", x, ARGUMENT, y -> y.falls(0, 6));
    }

    private static void wins() {
        BottlePyramid x = new BottlePyramid();
        due("thief 0 of a full one", x.wins(0), 1);
        due("thief 1 of a full one", x.wins(1), 1);
        BottlePyramid empty = after("k00;k01;k02;k03;k04");
        due("the thief 0 without a theft", empty.wins(0), 0);
        due("the thief 1 without a theft", empty.wins(1), 0);
        empty.put(0, 0);
        due("with the last bottle", empty.wins(1), 1);
        empty.put(0, 3);
        due("with the last but one", empty.wins(0), 0);
        empty.set(0, 2);
        due("with both at once", empty.wins(0), 1);
        empty.set(2, 1);
        due("leaving the last", empty.wins(1), 1);
        empty.knock(0, 3);
        due("with the last to lose", empty.wins(1), 0);
        empty.knock(0, 0);
        due("over and won", empty.wins(0), 1);
        // Three in the bottom row and one on the left two: from the left the upper one can be let fall.
        BottlePyramid sides = after("k03;k04;k11");
        for (int thief = 0; thief <= 1; thief++) {
            sides.turn(thief);
            due("the thief on the side of the upper one, at the turn of " + thief, sides.wins(0), 1);
            due("the thief on the other side, at the turn of " + thief, sides.wins(1), 0);
        }
        sides.set(1, 1);
        due("without letting it fall", sides.wins(0), 0);
        refused("wins(-1)", x, ARGUMENT, y -> y.wins(-1));
        refused("wins(2)", x, ARGUMENT, y -> y.wins(2));
    }

    private static void best() {
        due("of a full one", new BottlePyramid().best(), 41);
        BottlePyramid flat = after("k10;k11;k12;k13");
        due("of five in a row", flat.best(), 1);
        flat.set(0, 3);
        due("leaving four", flat.best(), 1);
        flat.knock(0, 0);
        due("of four with up to 3", flat.best(), -1);
        flat.knock(0, 1);
        due("of three with up to 3", flat.best(), 3);
        flat.set(2, 1);
        due("leaving the last one", flat.best(), 2);
        BottlePyramid sides = after("k03;k04;k11");
        due("on the side of the upper one", sides.best(), 1);
        sides.turn(1);
        due("on the other side", sides.best(), -1);
        sides.mirror();
        sides.turn(1);
        due("of the thief 1 on the side of the upper one", sides.best(), 1);
        due("the fewest bottles of the lowest row", withSettings(2, 0, 0).best(), 32);
        due("of three bottles of a row", withSettings(3, 0, 0).best(), 23);
        BottlePyramid empty = after("k00;k01;k02;k03;k04");
        due("without thefts", empty.best(), -1);
        empty.set(2, 1);
        due("without thefts but won", empty.best(), -1);
    }

    private static void length() {
        BottlePyramid x = new BottlePyramid();
        due("the most", x.length(0), 15);
        due("the fewest", x.length(1), 5);
        x.set(0, 3);
        due("the fewest with up to 3", x.length(1), 2);
        due("the most with up to 3", x.length(0), 15);
        x.set(1, 1);
        due("the fewest when barred", x.length(1), 7);
        BottlePyramid empty = after("k00;k01;k02;k03;k04");
        due("the most when over", empty.length(0), 0);
        due("the fewest when over", empty.length(1), 0);
        refused("length(-1)", x, ARGUMENT, y -> y.length(-1));
        refused("length(2)", x, ARGUMENT, y -> y.length(2));
    }

    private static void pyramids() {
        BottlePyramid x = after("t01;t01");
        due("all", x.pyramids(0), 132);
        due("over for both", x.pyramids(3), 1);
        int[] won = {81, 81, 66, 66, 86, 101, 85, 89, 111, 125, 92, 88};
        for (int i = 0; i < won.length; i++) {
            BottlePyramid y = withSettings(1 + i / 4, i / 2 % 2, i % 2);
            due("all under settings " + i, y.pyramids(0), 132);
            due("won by the thief 0 under settings " + i, y.pyramids(1), won[i]);
            due("won by the thief 1 under settings " + i, y.pyramids(2), won[i]);
            due("over for both under settings " + i, y.pyramids(3), 1);
        }
        refused("pyramids(-1)", x, ARGUMENT, y -> y.pyramids(-1));
        refused("pyramids(4)", x, ARGUMENT, y -> y.pyramids(4));
    }

    private static void brokenShare() {
        BottlePyramid x = new BottlePyramid();
        due("without any", x.brokenShare(), 0.0);
        due("4 of 5", after("t01").brokenShare(), 4.0 / 5.0);
        due("all", after("k02").brokenShare(), 1.0);
        due("none", after("t41").brokenShare(), 0.0);
        due("4 of 6", after("t41;t41;t31;t31").brokenShare(), 0.0);
        due("10 of 13", after("t01;t01;t11;k03").brokenShare(), 10.0 / 13.0);
        due("refilled", after("t01;r").brokenShare(), 4.0 / 5.0);
    }

    private static void wonShare() {
        due("half", withSettings(1, 1, 0).wonShare(), 0.5f);
        int[] won = {81, 101, 125};
        for (int most = 1; most <= 3; most++) {
            BottlePyramid x = withSettings(most, 0, 1);
            due("of the thief 0", x.wonShare(), won[most - 1] / 132.0f);
            x.turn(1);
            due("of the thief 1", x.wonShare(), won[most - 1] / 132.0f);
        }
    }

    private static void digest() {
        due("of a new one", new BottlePyramid().digest(), digestOf(new BottlePyramid(), 0, ""));
        BottlePyramid x = after("t01;t01;k03");
        due("with bits of shares", x.digest(), digestOf(x, 0, ""));
        x.keep();
        typed(x, "m;t01~!");
        due("with a snapshot and a buffer", x.digest(), digestOf(x, 1, "m;t01~!"));
        x.set(0, 3);
        x.set(2, 1);
        x.turn(1);
        due("under other settings", x.digest(), digestOf(x, 1, "m;t01~!"));
        due("all broken", after("k02").digest(), digestOf(after("k02"), 0, ""));
        due("one broken of very few", after("t41;t31;t31;k00").digest(), digestOf(after("t41;t31;t31;k00"), 0, ""));
    }
}
