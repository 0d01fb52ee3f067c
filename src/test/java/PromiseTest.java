/** For each promise of the document: ordinary inputs, edges and wrong inputs. */
public final class PromiseTest extends Checks {
    private static void promise1NewObject() {
        FoldedKeys x = new FoldedKeys();
        due("1: NONE", FoldedKeys.NONE, -1);
        for (int cell = 0; cell < 16; cell++) {
            int[] want = {0, 0, 0, cell / 4, -1, -1, cell};
            for (int what = 0; what < 7; what++) {
                due("1: cell " + cell + ", " + what, x.cell(cell, what), want[what]);
            }
        }
        int[] counts = {0, 0, 0, 16, 15, 4, 0};
        for (int what = 0; what < 7; what++) {
            due("1: count " + what, x.count(what), counts[what]);
        }
        for (int what = 0; what < 5; what++) {
            due("1: walker " + what, x.walker(what), 0);
        }
        due("1: buffer", x.clearBuffer(), 0);
    }

    private static void promise2Door() {
        FoldedKeys x = new FoldedKeys();
        due("2: first", x.door(0, 1), 0);
        due("2: again", x.door(0, 5), 1);
        due("2: kept", x.cell(0, 1), 5);
        due("2: last place", x.door(14, 3), 0);
        due("2: doors", x.count(1), 2);
        due("2: none", x.door(0, 0), 5);
        due("2: doors less", x.count(1), 1);
        due("2: saved", x.count(6), 4);
        refused("2: place -1", x, PLACE, () -> x.door(-1, 0));
        refused("2: place 15", x, PLACE, () -> x.door(15, 0));
        refused("2: place and lock", x, PLACE, () -> x.door(15, 9));
        refused("2: lock -1", x, ARGUMENT, () -> x.door(0, -1));
        refused("2: lock 6", x, ARGUMENT, () -> x.door(14, 6));
        refused("2: far", x, PLACE, () -> x.door(Integer.MIN_VALUE, Integer.MAX_VALUE));
    }

    private static void promise3Key() {
        FoldedKeys x = new FoldedKeys();
        due("3: first", x.key(0, 2), 0);
        due("3: last cell", x.key(15, 5), 0);
        due("3: keys", x.count(0), 2);
        refused("3: a third", x, STATE, () -> x.key(1, 1));
        refused("3: cell and bow", x, PLACE, () -> x.key(16, 6));
        refused("3: cell -1", x, PLACE, () -> x.key(-1, 1));
        refused("3: bow before too many", x, ARGUMENT, () -> x.key(1, 6));
        refused("3: bow -1", x, ARGUMENT, () -> x.key(1, -1));
        due("3: none where none is", x.key(1, 0), 0);
        due("3: another bow", x.key(15, 4), 5);
        due("3: kept", x.cell(15, 0), 4);
        x.step(4);
        due("3: in the hand", x.walker(1), 2);
        refused("3: the hand counts", x, STATE, () -> x.key(0, 1));
        due("3: out", x.key(15, 0), 4);
        due("3: keys", x.count(0), 1);
        due("3: under the walker", x.key(0, 3), 0);
        due("3: the hand stays", x.walker(1), 2);
        due("3: out again", x.key(0, 0), 3);
        due("3: the hand stays on", x.walker(1), 2);
        due("3: saved", x.count(6), 6);
    }

    private static void promise4Ladder() {
        FoldedKeys x = new FoldedKeys();
        due("4: first", x.ladder(0, true), 0);
        due("4: again", x.ladder(0, true), 1);
        due("4: told", x.cell(0, 2), 1);
        due("4: up", x.cell(0, 5), 7);
        due("4: down", x.cell(7, 4), 0);
        due("4: not told", x.cell(7, 2), 0);
        due("4: both told", x.ladder(7, true), 0);
        due("4: 0 and 7, 7 and 8", x.count(2), 2);
        due("4: off", x.ladder(0, false), 1);
        due("4: by the other", x.cell(0, 5), 7);
        due("4: off again", x.ladder(0, false), 0);
        due("4: saved", x.count(6), 5);
        due("4: the last", x.ladder(15, true), 0);
        due("4: below the last", x.cell(15, 4), 8);
        due("4: above the last", x.cell(15, 5), -1);
        refused("4: -1", x, PLACE, () -> x.ladder(-1, true));
        refused("4: 16", x, PLACE, () -> x.ladder(16, false));
    }

    private static void promise5Fold() {
        FoldedKeys x = new FoldedKeys();
        due("5: 2", x.fold(2), 4);
        due("5: floor of 15", x.cell(15, 3), 7);
        due("5: 8", x.fold(8), 2);
        due("5: floor of 7", x.cell(7, 3), 0);
        due("5: floor of 8", x.cell(8, 3), 1);
        due("5: same", x.fold(8), 8);
        due("5: saved", x.count(6), 3);
        due("5: 3", x.fold(3), 8);
        due("5: floor of 14", x.cell(14, 3), 4);
        due("5: floor of 15", x.cell(15, 3), 5);
        x.ladder(14, true);
        due("5: the short floor", x.cell(14, 5), 15);
        x.ladder(13, true);
        due("5: nothing over it", x.cell(13, 5), -1);
        due("5: below it", x.cell(13, 4), 10);
        due("5: 7", x.fold(7), 3);
        due("5: 13 and 14", x.cell(13, 5), 14);
        refused("5: 1", x, ARGUMENT, () -> x.fold(1));
        refused("5: 9", x, ARGUMENT, () -> x.fold(9));
        refused("5: 0", x, ARGUMENT, () -> x.fold(0));
        refused("5: -4", x, ARGUMENT, () -> x.fold(-4));
    }

    private static void promise6Stand() {
        FoldedKeys x = made("2");
        x.step(4);
        due("6: last", x.stand(15), 0);
        due("6: there", x.walker(0), 15);
        due("6: with the hand", x.walker(1), 2);
        due("6: no step", x.walker(2), 1);
        due("6: same", x.stand(15), 15);
        due("6: saved", x.count(6), 4);
        due("6: plans from there", x.cell(0, 6), 15);
        x.step(4);
        due("6: laid down there", x.cell(15, 0), 2);
        due("6: not with it", x.stand(3), 15);
        due("6: left", x.cell(15, 0), 2);
        refused("6: -1", x, PLACE, () -> x.stand(-1));
        refused("6: 16", x, PLACE, () -> x.stand(16));
    }

    private static void promise7Step() {
        FoldedKeys x = made("1|.a3b");
        refused("7: 5", x, ARGUMENT, () -> x.step(5));
        refused("7: -1", x, ARGUMENT, () -> x.step(-1));
        refused("7: no cell", x, STATE, () -> x.step(0));
        refused("7: no ladder down", x, STATE, () -> x.step(2));
        due("7: up", x.step(3), 7);
        refused("7: no key", x, STATE, () -> x.step(4));
        due("7: down", x.step(2), 0);
        due("7: take", x.step(4), 0);
        due("7: hand", x.walker(1), 1);
        due("7: cell", x.cell(0, 0), 0);
        due("7: right", x.step(1), 1);
        due("7: through", x.step(1), 2);
        due("7: the key stays", x.walker(1), 1);
        due("7: the door stays", x.cell(1, 1), 1);
        refused("7: another bow", x, STATE, () -> x.step(1));
        due("7: swap", x.step(4), 2);
        due("7: swapped hand", x.walker(1), 3);
        due("7: swapped cell", x.cell(2, 0), 1);
        refused("7: back", x, STATE, () -> x.step(0));
        due("7: steps", x.walker(2), 6);
        due("7: swaps", x.walker(3), 2);
        due("7: doors", x.walker(4), 1);
        due("7: saved", x.count(6), 6);
        due("7: swap back", x.step(4), 2);
        due("7: back through", x.step(0), 1);
        due("7: doors both ways", x.walker(4), 2);
        due("7: lay down", x.step(4), 1);
        due("7: laid", x.cell(1, 0), 1);
        refused("7: none in the hand", x, STATE, () -> x.step(1));
        x.stand(15);
        refused("7: no cell after the last", x, STATE, () -> x.step(1));
        due("7: left", x.step(0), 14);
    }

    private static void promise8Walk() {
        FoldedKeys x = made("...1");
        x.door(0, 1);
        refused("8: no plan", x, STATE, () -> x.walk(1));
        refused("8: -1", x, PLACE, () -> x.walk(-1));
        refused("8: 16", x, PLACE, () -> x.walk(16));
        int saved = x.count(6);
        due("8: none", x.walk(0), 0);
        due("8: saved also then", x.count(6), saved + 1);
        FoldedKeys y = made(".1.a..2b");
        saved = y.count(6);
        due("8: by both keys", y.walk(8), 10);
        due("8: there", y.walker(0), 8);
        due("8: hand", y.walker(1), 2);
        due("8: steps", y.walker(2), 10);
        due("8: swaps", y.walker(3), 2);
        due("8: doors", y.walker(4), 2);
        due("8: one call", y.count(6), saved + 1);
        y.undo();
        due("8: taken back", y.walker(0), 0);
        due("8: taken back, steps", y.walker(2), 0);
        due("8: taken back, key", y.cell(1, 0), 1);
    }

    private static void promise9Append() {
        FoldedKeys x = new FoldedKeys();
        refused("9: 32", x, ARGUMENT, () -> x.append(32));
        refused("9: 127", x, ARGUMENT, () -> x.append(127));
        refused("9: 302", x, ARGUMENT, () -> x.append(302));
        due("9: 33", x.append(33), 1);
        due("9: 126", x.append(126), 2);
        for (int length = 3; length <= 60; length++) {
            due("9: length", x.append('.'), length);
        }
        refused("9: full", x, STATE, () -> x.append('.'));
        refused("9: code before full", x, ARGUMENT, () -> x.append(32));
        due("9: not undoable", x.count(6), 0);
    }

    private static void promise10ClearBuffer() {
        FoldedKeys x = new FoldedKeys();
        due("10: empty", x.clearBuffer(), 0);
        type(x, "abc");
        due("10: three", x.clearBuffer(), 3);
        due("10: empty again", x.clearBuffer(), 0);
        due("10: not undoable", x.count(6), 0);
        due("10: from the start", x.append('.'), 1);
        due("10: the old is gone", x.firstError(), 1);
    }

    private static void dueError(String text, int want) {
        FoldedKeys x = new FoldedKeys();
        type(x, text);
        due("11: " + text, x.firstError(), want);
        due("11: the buffer stays", x.clearBuffer(), text.length());
    }

    private static void promise11FirstError() {
        String all = "................";
        String most = ".|a.|b.|c.|d.|e1|a.|b5|c.|d.|e.|a.|b.|c.|d.|e.|";
        String[] whole = {"", ".", "1", "5", ".|", ".a", ".e", ".|a", ".|a.", "1|e2|d", all,
            all + "|", most};
        for (String text : whole) {
            dueError(text, text.length());
        }
        String[] lastIsWrong = {"|", "a", "0", "6", "x", ".0", ".6", ".f", ".A", "..|x", ".||", ".a|",
            ".ab", ".aa", ".|a|", "12.3", "1.|a2|b3", "1115", all + ".", all + "1", all + "a",
            all + "|a", all + "|.", all + "||", most + ".", "!", ".~", "./", ".`"};
        for (String text : lastIsWrong) {
            int at = text.equals("1115") ? 2 : text.length() - 1;
            dueError(text, at);
        }
        dueError(".a|....", 2);
        dueError("xy", 0);
    }

    private static void promise12Corridor() {
        FoldedKeys x = new FoldedKeys();
        refused("12: empty", x, ARGUMENT, () -> x.corridor());
        type(x, "...............");
        refused("12: 15 cells", x, ARGUMENT, () -> x.corridor());
        x.append('.');
        x.append('.');
        refused("12: 17 cells", x, ARGUMENT, () -> x.corridor());
        type(x, "................a");
        refused("12: a door behind the last", x, ARGUMENT, () -> x.corridor());
        type(x, "1.2.3...........");
        refused("12: three keys", x, ARGUMENT, () -> x.corridor());
        x.fold(5);
        x.key(0, 3);
        x.ladder(4, true);
        x.ladder(0, true);
        x.door(0, 3);
        x.door(14, 4);
        x.step(4);
        x.step(1);
        type(x, ".2|e.|.c..........5.|");
        due("12: keys", x.corridor(), 2);
        due("12: buffer", x.clearBuffer(), 0);
        due("12: setting", x.count(5), 5);
        due("12: walker", x.walker(0), 0);
        due("12: hand", x.walker(1), 0);
        due("12: steps stay", x.walker(2), 2);
        due("12: swaps stay", x.walker(3), 1);
        due("12: key", x.cell(1, 0), 2);
        due("12: second key", x.cell(14, 0), 5);
        due("12: door", x.cell(1, 1), 5);
        due("12: second door", x.cell(3, 1), 3);
        due("12: doors", x.count(1), 2);
        due("12: ladders", x.cell(1, 2) + x.cell(2, 2) + x.cell(15, 2), 3);
        due("12: no old ladder", x.cell(4, 2) + x.cell(0, 2), 0);
        due("12: no old door", x.cell(0, 1) + x.cell(14, 1), 0);
        x.undo();
        due("12: undone", x.walker(1), 3);
        due("12: undone, door", x.cell(14, 1), 4);
        due("12: the buffer is not brought back", x.clearBuffer(), 0);
        type(x, "................");
        int saved = x.count(6);
        due("12: no keys", x.corridor(), 0);
        due("12: saved", x.count(6), saved + 1);
    }

    private static void promise13Undo() {
        FoldedKeys x = new FoldedKeys();
        refused("13: none", x, STATE, () -> x.undo());
        for (int lock = 1; lock <= 5; lock++) {
            x.door(2, lock);
        }
        x.fold(3);
        x.stand(9);
        x.ladder(1, true);
        due("13: at most 6", x.count(6), 6);
        type(x, "ab");
        due("13: 5 left", x.undo(), 5);
        due("13: ladder", x.cell(1, 2), 0);
        due("13: 4 left", x.undo(), 4);
        due("13: cell", x.walker(0), 0);
        due("13: 3 left", x.undo(), 3);
        due("13: length", x.count(5), 4);
        x.undo();
        x.undo();
        due("13: 0 left", x.undo(), 0);
        due("13: the oldest were dropped", x.cell(2, 1), 2);
        refused("13: none left", x, STATE, () -> x.undo());
        due("13: the buffer stays", x.clearBuffer(), 2);
        x.key(0, 1);
        x.door(0, 1);
        x.step(4);
        x.step(1);
        due("13: doors", x.walker(4), 1);
        x.undo();
        due("13: counts too", x.walker(4) * 100 + x.walker(3) * 10 + x.walker(2), 11);
        x.undo();
        due("13: the key again", x.cell(0, 0), 1);
        due("13: counts again", x.walker(3) + x.walker(2), 0);
        x.stand(4);
        due("13: after an undo", x.undo(), 2);
        due("13: to before it", x.walker(0), 0);
    }

    private static void promise14Cell() {
        FoldedKeys x = made("..|a.1e...........|");
        due("14: key", x.cell(3, 0), 1);
        due("14: no key", x.cell(2, 0), 0);
        due("14: lock", x.cell(1, 1), 1);
        due("14: lock behind the last", x.cell(15, 1), 0);
        due("14: told", x.cell(1, 2), 1);
        due("14: floor", x.cell(11, 3), 2);
        due("14: below", x.cell(6, 4), 1);
        due("14: above", x.cell(1, 5), 6);
        due("14: none below the lowest", x.cell(1, 4), -1);
        due("14: told, of the top floor", x.cell(14, 5), -1);
        due("14: steps", x.cell(6, 6), 2);
        due("14: round by the ladder", x.cell(5, 6), 3);
        due("14: no plan", x.cell(2, 6), -1);
        due("14: nor to the key", x.cell(3, 6), -1);
        due("14: its own", x.cell(0, 6), 0);
        refused("14: -1", x, PLACE, () -> x.cell(-1, 0));
        refused("14: 16", x, PLACE, () -> x.cell(16, 7));
        refused("14: what 7", x, ARGUMENT, () -> x.cell(0, 7));
        refused("14: what -1", x, ARGUMENT, () -> x.cell(0, -1));
        FoldedKeys y = new FoldedKeys();
        y.ladder(3, true);
        due("14: neighbours at the fold", y.cell(3, 5), 4);
        due("14: and down", y.cell(4, 4), 3);
    }

    private static void promise15Walker() {
        FoldedKeys x = made("3..c");
        x.walk(3);
        x.stand(7);
        due("15: cell", x.walker(0), 7);
        due("15: hand", x.walker(1), 3);
        due("15: steps", x.walker(2), 4);
        due("15: swaps", x.walker(3), 1);
        due("15: doors", x.walker(4), 1);
        refused("15: 5", x, ARGUMENT, () -> x.walker(5));
        refused("15: -1", x, ARGUMENT, () -> x.walker(-1));
        FoldedKeys y = made("....|a");
        y.walk(4);
        due("15: a ladder goes past the door", y.walker(4), 0);
        due("15: by four steps", y.walker(2), 4);
    }

    private static void promise16Plan() {
        FoldedKeys x = made(".1.a");
        duePlan("16: fetch the key", x, 3, "1411");
        due("16: no more", x.plan(3, 4), -1);
        due("16: far", x.plan(3, Integer.MAX_VALUE), -1);
        duePlan("16: where it is", x, 0, "");
        refused("16: -1", x, ARGUMENT, () -> x.plan(0, -1));
        refused("16: cell 16", x, PLACE, () -> x.plan(16, -1));
        refused("16: cell -1", x, PLACE, () -> x.plan(-1, 0));
        FoldedKeys y = new FoldedKeys();
        y.ladder(3, true);
        y.stand(4);
        duePlan("16: 0 before 2", y, 3, "0");
        y.stand(3);
        duePlan("16: 1 before 3", y, 4, "1");
        FoldedKeys z = made("2b.............1");
        z.stand(1);
        due("16: no plan", z.plan(0, 0), -1);
        FoldedKeys k = made(".11a");
        duePlan("16: the first of equal plans", k, 3, "1141");
        FoldedKeys none = made("1a....3b");
        none.stand(1);
        due("16: locked out", none.plan(15, 0), -1);
        due("16: no length", none.cell(15, 6), -1);
    }

    private static void promise17Count() {
        FoldedKeys x = made("1|..|a.2|");
        due("17: keys", x.count(0), 2);
        x.step(4);
        due("17: keys with the hand", x.count(0), 2);
        due("17: doors", x.count(1), 1);
        due("17: ladders between", x.count(2), 4);
        due("17: to all", x.count(3), 16);
        x.fold(7);
        due("17: ladders by the setting", x.count(2), 3);
        x.ladder(15, true);
        due("17: one of the top floor", x.count(2), 4);
        due("17: length", x.count(5), 7);
        due("17: saved", x.count(6), 4);
        refused("17: 7", x, ARGUMENT, () -> x.count(7));
        refused("17: -1", x, ARGUMENT, () -> x.count(-1));
        FoldedKeys y = made("....e");
        due("17: before the door", y.count(3), 4);
        due("17: most steps", y.count(4), 3);
        y.stand(2);
        due("17: most steps from 2", y.count(4), 2);
        y.stand(0);
        y.door(0, 1);
        due("17: no steps at all", y.count(4), 0);
        due("17: its own cell alone", y.count(3), 1);
    }

    private static void promise18Refusal() {
        FoldedKeys x = made(".a1b");
        int[] want = {1, 2, 1, 1, 1};
        for (int step = 0; step < 5; step++) {
            due("18: in 0, " + step, x.refusal(step), want[step]);
        }
        x.stand(1);
        due("18: locked below", x.refusal(0), 2);
        due("18: locked above", x.refusal(1), 2);
        due("18: a key there", x.refusal(4), 0);
        x.step(4);
        due("18: with the key", x.refusal(0), 0);
        due("18: another bow", x.refusal(1), 2);
        due("18: a key in the hand", x.refusal(4), 0);
        x.ladder(1, true);
        due("18: ladder up", x.refusal(3), 0);
        x.stand(6);
        due("18: ladder down", x.refusal(2), 0);
        due("18: no ladder up", x.refusal(3), 1);
        x.stand(15);
        due("18: after the last", x.refusal(1), 1);
        refused("18: 5", x, ARGUMENT, () -> x.refusal(5));
        refused("18: -1", x, ARGUMENT, () -> x.refusal(-1));
    }

    private static void promise19IfDoor() {
        FoldedKeys x = made(".1");
        long before = x.digest();
        due("19: with a key for it", x.ifDoor(3, 1), 16);
        due("19: with none", x.ifDoor(3, 2), 4);
        due("19: before the key", x.ifDoor(0, 1), 1);
        due("19: the last", x.ifDoor(14, 5), 15);
        due("19: nothing is changed", x.digest(), before);
        x.door(3, 2);
        due("19: none instead", x.ifDoor(3, 0), 16);
        due("19: as it is", x.ifDoor(3, 2), 4);
        refused("19: -1", x, PLACE, () -> x.ifDoor(-1, 0));
        refused("19: 15", x, PLACE, () -> x.ifDoor(15, 6));
        refused("19: 6", x, ARGUMENT, () -> x.ifDoor(0, 6));
        refused("19: lock -1", x, ARGUMENT, () -> x.ifDoor(14, -1));
    }

    private static void promise20Without() {
        FoldedKeys x = made(".1.a..2b");
        long before = x.digest();
        due("20: the first", x.without(1), 3);
        due("20: the second", x.without(5), 6);
        due("20: none there", x.without(2), 16);
        due("20: nothing is changed", x.digest(), before);
        x.walk(3);
        due("20: the hand keeps its own", x.without(3), 16);
        refused("20: -1", x, PLACE, () -> x.without(-1));
        refused("20: 16", x, PLACE, () -> x.without(16));
    }

    private static void promise21BestFold() {
        FoldedKeys x = new FoldedKeys();
        due("21: all the same", x.bestFold(), 2);
        x.ladder(0, true);
        due("21: the fewest steps", x.bestFold(), 6);
        x.door(1, 1);
        due("21: round the door", x.bestFold(), 5);
        due("21: nothing is changed", x.count(5), 4);
        FoldedKeys y = made("..|a....a");
        due("21: most cells before fewest steps", y.bestFold(), 6);
        y.door(5, 0);
        due("21: without the second door", y.bestFold(), 5);
        FoldedKeys z = made(".|");
        for (int cell = 0; cell < 14; cell++) {
            z.door(cell, 1);
        }
        due("21: the longest", z.bestFold(), 8);
        z.door(14, 1);
        due("21: the least of equal ones", z.bestFold(), 2);
    }

    private static void promise22Reached() {
        FoldedKeys x = new FoldedKeys();
        due("22: all", x.reached() == 1.0 ? 1 : 0, 1);
        for (int cell = 14; cell >= 0; cell--) {
            x.door(cell, 1);
            due("22: up to " + cell, x.reached() == (cell + 1) / 16.0 ? 1 : 0, 1);
        }
    }

    /** The digest by the document's words, from what the other calls answer. */
    private static long digestOf(FoldedKeys x, String buffer) {
        long hash = 3319;
        for (int what = 0; what <= 6; what++) {
            hash = 31 * hash + x.count(what);
        }
        for (int what = 0; what <= 4; what++) {
            hash = 31 * hash + x.walker(what);
        }
        for (int cell = 0; cell < 16; cell++) {
            for (int what = 0; what <= 6; what++) {
                hash = 31 * hash + x.cell(cell, what);
            }
        }
        for (int step = 0; step <= 4; step++) {
            hash = 31 * hash + x.refusal(step);
        }
        for (int place = 0; x.plan(15, place) != -1; place++) {
            hash = 31 * hash + x.plan(15, place);
        }
        hash = 31 * hash + x.without(0);
        hash = 31 * hash + x.ifDoor(7, 3);
        hash = 31 * hash + Double.doubleToLongBits(x.reached());
        hash = 31 * hash + buffer.length();
        for (int index = 0; index < buffer.length(); index++) {
            hash = 31 * hash + buffer.charAt(index);
        }
        return hash;
    }

    private static void promise23Digest() {
        FoldedKeys x = made("1.3a....c");
        type(x, "!~.");
        due("23: once", x.digest(), digestOf(x, "!~."));
        due("23: twice", x.digest(), digestOf(x, "!~."));
        x.walk(3);
        due("23: after a walk", x.digest(), digestOf(x, "!~."));
        FoldedKeys y = new FoldedKeys();
        due("23: new", y.digest(), digestOf(y, ""));
        for (int cell = 14; cell >= 0; cell--) {
            FoldedKeys z = new FoldedKeys();
            z.door(cell, 1);
            due("23: " + (cell + 1) + " cells", z.digest(), digestOf(z, ""));
        }
    }

    private static void examplesOfTheReadme() {
        FoldedKeys x = new FoldedKeys();
        x.key(1, 2);
        x.door(3, 2);
        due("README: steps", x.cell(4, 6), 5);
        duePlan("README", x, 4, "14111");
        due("README: walk", x.walk(4), 5);
        due("README: at", x.walker(0), 4);
        due("README: undo", x.undo(), 2);
        due("README: back", x.walker(0), 0);
        type(x, "1|a..2c............");
        due("README: error", x.firstError(), 19);
        due("README: keys", x.corridor(), 2);
        due("README: the buffer is cleared", x.clearBuffer(), 0);
    }

    public static void main(String[] args) {
        examplesOfTheReadme();
        promise1NewObject();
        promise2Door();
        promise3Key();
        promise4Ladder();
        promise5Fold();
        promise6Stand();
        promise7Step();
        promise8Walk();
        promise9Append();
        promise10ClearBuffer();
        promise11FirstError();
        promise12Corridor();
        promise13Undo();
        promise14Cell();
        promise15Walker();
        promise16Plan();
        promise17Count();
        promise18Refusal();
        promise19IfDoor();
        promise20Without();
        promise21BestFold();
        promise22Reached();
        promise23Digest();
        tell();
    }
}
