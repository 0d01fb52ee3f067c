import java.math.BigInteger;
import java.util.List;
import java.util.function.Consumer;

/** The boundary cases of the document's sentences, in the document's order. */
public final class EdgeTest extends Checks {
    private static final String FIRST_15 = BARE.substring(1);
    private static final long NEW_HASH = -8258062880729352677L;

    // ---- the corridor

    private static void doorsAtEveryPlaceWithEveryLock() {
        for (int place = 0; place <= 14; place++) {
            for (int lock = 0; lock <= 5; lock++) {
                FoldedKeys x = new FoldedKeys();
                String what = "door " + place + ", lock " + lock;
                due(what, x.door(place, lock), 0);
                for (int cell = 0; cell < 16; cell++) {
                    due(what + ", behind " + cell, x.cell(cell, 1), cell == place ? lock : 0);
                }
                due(what + ": doors", x.count(1), lock == 0 ? 0 : 1);
                due(what + ": cells", x.count(3), lock == 0 ? 16 : place + 1);
                due(what + ": again", x.door(place, 0), lock);
                due(what + ": without", x.count(3), 16);
            }
        }
        FoldedKeys all = new FoldedKeys();
        for (int place = 0; place <= 14; place++) {
            all.door(place, 1 + place % 5);
        }
        due("all doors", all.count(1), 15);
        due("no door behind the last cell", all.cell(15, 1), 0);
    }

    private static void floorsAreRoundedDown() {
        for (int length = 2; length <= 8; length++) {
            FoldedKeys x = new FoldedKeys();
            x.fold(length);
            for (int cell = 0; cell < 16; cell++) {
                due("length " + length + ", floor of " + cell, x.cell(cell, 3), cell / length);
            }
        }
        FoldedKeys two = new FoldedKeys();
        two.fold(2);
        due("most floors", two.cell(15, 3), 7);
        FoldedKeys five = new FoldedKeys();
        five.fold(5);
        due("the last cell of a floor", five.cell(14, 3), 2);
        due("a last floor of one cell", five.cell(15, 3), 3);
    }

    /** By the document's words, whether there is a ladder between them, if this cell alone is told. */
    private static boolean isLadder(int length, int low, int high, int told) {
        int floor = low / length;
        return high / length == floor + 1 && low + high == 2 * length * (floor + 1) - 1
                && (told == low || told == high);
    }

    private static void laddersByEveryCellAlone() {
        for (int length = 2; length <= 8; length++) {
            for (int told = 0; told < 16; told++) {
                FoldedKeys x = new FoldedKeys();
                x.fold(length);
                x.ladder(told, true);
                String what = "length " + length + ", told " + told;
                int ladders = 0;
                for (int cell = 0; cell < 16; cell++) {
                    int below = -1;
                    int above = -1;
                    for (int other = 0; other < 16; other++) {
                        below = isLadder(length, other, cell, told) ? other : below;
                        above = isLadder(length, cell, other, told) ? other : above;
                    }
                    ladders += above == -1 ? 0 : 1;
                    due(what + ", below " + cell, x.cell(cell, 4), below);
                    due(what + ", above " + cell, x.cell(cell, 5), above);
                    due(what + ", told " + cell, x.cell(cell, 2), cell == told ? 1 : 0);
                }
                due(what + ": ladders", x.count(2), ladders);
            }
        }
    }

    private static void laddersOfAllCells() {
        FoldedKeys x = new FoldedKeys();
        for (int cell = 0; cell < 16; cell++) {
            x.ladder(cell, true);
        }
        for (int length = 2; length <= 8; length++) {
            x.fold(length);
            // Each cell has one above it, but the last so many.
            due("all told, length " + length, x.count(2), 16 - length);
        }
        x.fold(6);
        due("a short top floor, its first cell", x.cell(12, 4), 11);
        due("its last cell", x.cell(15, 4), 8);
        due("below a cell that is not there", x.cell(7, 5), -1);
        due("on the lowest floor nothing below", x.cell(0, 4), -1);
        due("on the top floor nothing above", x.cell(12, 5), -1);
    }

    private static void aLadderIsOneIfBothAreTold() {
        FoldedKeys x = new FoldedKeys();
        x.ladder(7, true);
        due("told above: up", x.cell(0, 5), 7);
        x.ladder(0, true);
        due("both told: up", x.cell(0, 5), 7);
        due("both told: down", x.cell(7, 4), 0);
        due("both told: 0 and 7, 7 and 8", x.count(2), 2);
        x.ladder(7, false);
        due("told below: down", x.cell(7, 4), 0);
        due("told below: alone", x.count(2), 1);
        x.ladder(0, false);
        due("none told: up", x.cell(0, 5), -1);
        due("none told: down", x.cell(7, 4), -1);
        due("none told: ladders", x.count(2), 0);
    }

    private static void aCellToldOfALadderThatIsNotThere() {
        FoldedKeys x = new FoldedKeys();
        x.fold(6);
        x.ladder(7, true);
        due("told", x.cell(7, 2), 1);
        due("below it", x.cell(7, 4), 4);
        due("nothing above it", x.cell(7, 5), -1);
        x.stand(7);
        due("not up", x.refusal(3), 1);
        due("down", x.refusal(2), 0);
        x.fold(8);
        due("by another setting", x.cell(7, 5), 8);
        due("and nothing below", x.cell(7, 4), -1);
    }

    // ---- keys

    private static FoldedKeys withHand(int bow) {
        FoldedKeys x = new FoldedKeys();
        if (bow != 0) {
            x.key(0, bow);
            x.step(4);
        }
        return x;
    }

    private static void atMostTwoKeysInCells() {
        FoldedKeys x = new FoldedKeys();
        x.key(0, 1);
        due("one key", x.count(0), 1);
        x.key(15, 1);
        due("two keys", x.count(0), 2);
        for (int cell = 1; cell < 15; cell++) {
            int third = cell;
            dueThrown("a third in " + cell, STATE, () -> x.key(third, 5));
            due("none instead of none", x.key(cell, 0), 0);
        }
        due("another instead of the first", x.key(0, 5), 1);
        due("another instead of the second", x.key(15, 2), 1);
        due("the same again", x.key(15, 2), 2);
        due("still two", x.count(0), 2);
        due("the first is taken out", x.key(0, 0), 5);
        due("one left", x.count(0), 1);
        due("so there is room", x.key(7, 3), 0);
        due("the second is taken out", x.key(15, 0), 2);
        due("and room again", x.key(8, 4), 0);
        due("two again", x.count(0), 2);
        due("of the bows", x.cell(7, 0) * 10 + x.cell(8, 0), 34);
    }

    private static void atMostTwoKeysWithTheHand() {
        FoldedKeys x = withHand(3);
        due("one in the hand", x.count(0), 1);
        due("a second under the walker", x.key(0, 4), 0);
        due("two with the hand", x.count(0), 2);
        refused("a third elsewhere", x, STATE, () -> x.key(1, 3));
        due("another under the walker", x.key(0, 2), 4);
        due("the hand stays", x.walker(1), 3);
        due("out from under the walker", x.key(0, 0), 2);
        due("one in the hand again", x.count(0), 1);
        due("none out of the cell", x.key(0, 0), 0);
        due("never out of the hand", x.walker(1), 3);
        due("the second far off", x.key(15, 3), 0);
        refused("a third in the walker's cell", x, STATE, () -> x.key(0, 1));
        FoldedKeys y = new FoldedKeys();
        y.key(0, 1);
        y.key(1, 2);
        y.undo();
        due("room after an undo", y.key(2, 2), 0);
        refused("full after it", y, STATE, () -> y.key(1, 2));
    }

    private static void everyBowInTheHand() {
        for (int bow = 1; bow <= 5; bow++) {
            FoldedKeys x = withHand(bow);
            due("in the hand " + bow, x.walker(1), bow);
            due("no more in the cell", x.cell(0, 0), 0);
            x.stand(15);
            x.step(4);
            due("laid down " + bow, x.cell(15, 0), bow);
            due("the hand is empty", x.walker(1), 0);
            due("one key all along", x.count(0), 1);
        }
    }

    // ---- steps

    private static void stepsAtTheEndsOfTheCorridor() {
        FoldedKeys x = new FoldedKeys();
        due("no cell before 0", x.refusal(0), 1);
        refused("none before 0", x, STATE, () -> x.step(0));
        due("one after 0", x.step(1), 1);
        due("and back", x.step(0), 0);
        x.stand(15);
        due("no cell after 15", x.refusal(1), 1);
        refused("none after 15", x, STATE, () -> x.step(1));
        due("one before 15", x.step(0), 14);
        due("and on", x.step(1), 15);
        x.door(14, 1);
        due("a door is no matter where no cell is", x.refusal(1), 1);
        due("but where one is", x.refusal(0), 2);
    }

    private static void stepsByEveryLadder() {
        for (int length = 2; length <= 8; length++) {
            for (int cell = 0; cell < 16; cell++) {
                FoldedKeys x = new FoldedKeys();
                x.fold(length);
                x.stand(cell);
                String what = "length " + length + ", cell " + cell;
                due(what + ": no ladder down", x.refusal(2), 1);
                due(what + ": no ladder up", x.refusal(3), 1);
                dueThrown(what + ": not down", STATE, () -> x.step(2));
                dueThrown(what + ": not up", STATE, () -> x.step(3));
                x.ladder(cell, true);
                int floor = cell / length;
                int below = 2 * length * floor - 1 - cell;
                int above = 2 * length * (floor + 1) - 1 - cell;
                due(what + ": down", x.refusal(2), floor > 0 ? 0 : 1);
                due(what + ": up", x.refusal(3), above < 16 ? 0 : 1);
                if (floor > 0) {
                    due(what + ": gone down", x.step(2), below);
                    due(what + ": back up", x.step(3), cell);
                }
                if (above < 16) {
                    due(what + ": gone up", x.step(3), above);
                    due(what + ": back down", x.step(2), cell);
                }
            }
        }
    }

    private static void whatChangesPlaces() {
        FoldedKeys x = new FoldedKeys();
        due("none in either", x.refusal(4), 1);
        refused("nothing and nothing", x, STATE, () -> x.step(4));
        x.key(0, 1);
        due("one in the cell", x.refusal(4), 0);
        x.step(4);
        due("taken", x.walker(1) * 10 + x.cell(0, 0), 10);
        due("one in the hand", x.refusal(4), 0);
        x.key(0, 2);
        due("one in each", x.refusal(4), 0);
        x.step(4);
        due("changed", x.walker(1) * 10 + x.cell(0, 0), 21);
        x.step(4);
        due("changed back", x.walker(1) * 10 + x.cell(0, 0), 12);
        x.key(0, 1);
        x.step(4);
        due("two of one bow", x.walker(1) * 10 + x.cell(0, 0), 11);
        x.key(0, 0);
        x.step(4);
        due("laid down", x.walker(1) * 10 + x.cell(0, 0), 1);
        due("each counts", x.walker(3), 5);
        due("as a step too", x.walker(2), 5);
        due("and as no door", x.walker(4), 0);
    }

    private static void everyLockWithEveryHand() {
        for (int lock = 0; lock <= 5; lock++) {
            for (int bow = 0; bow <= 5; bow++) {
                boolean opens = lock == 0 || lock == bow;
                for (int step = 0; step <= 1; step++) {
                    FoldedKeys x = withHand(bow);
                    int taken = step;
                    int far = step == 1 ? 8 : 7;
                    x.stand(15 - far);
                    x.door(7, lock);
                    String what = "lock " + lock + ", hand " + bow + ", step " + step;
                    due(what, x.refusal(step), opens ? 0 : 2);
                    if (opens) {
                        due(what + ": through", x.step(step), far);
                        due(what + ": the key stays", x.walker(1), bow);
                        due(what + ": doors", x.walker(4), lock == 0 ? 0 : 1);
                        due(what + ": back", x.step(1 - step), 15 - far);
                        due(what + ": doors, both ways", x.walker(4), lock == 0 ? 0 : 2);
                    } else {
                        refused(what, x, STATE, () -> x.step(taken));
                        due(what + ": still there", x.walker(0), 15 - far);
                    }
                    due(what + ": the door stays", x.cell(7, 1), lock);
                }
            }
        }
    }

    private static void onlyTheHandOpens() {
        FoldedKeys x = made("1a");
        due("the key in the cell", x.refusal(1), 2);
        x.step(4);
        x.key(0, 2);
        due("the key in the hand", x.refusal(1), 0);
        x.step(4);
        due("another in the hand", x.refusal(1), 2);
        x.step(4);
        x.step(1);
        x.step(4);
        due("laid down behind the door", x.refusal(0), 2);
    }

    private static void aRefusedStepCountsNothing() {
        FoldedKeys x = made("1a");
        x.step(4);
        x.step(1);
        x.step(4);
        due("saved", x.count(6), 4);
        for (int step : new int[] {0, 2, 3}) {
            dueThrown("refused " + step, STATE, () -> x.step(step));
        }
        due("steps", x.walker(2), 3);
        due("swaps", x.walker(3), 2);
        due("doors", x.walker(4), 1);
        due("cell", x.walker(0), 1);
        due("hand", x.walker(1), 0);
        due("saved no more", x.count(6), 4);
    }

    private static void aLadderGoesPastADoor() {
        FoldedKeys x = made("...|a");
        x.fold(3);
        x.stand(2);
        due("locked", x.refusal(1), 2);
        due("past it", x.step(3), 3);
        due("no door gone through", x.walker(4), 0);
        due("a step", x.walker(2), 1);
        due("locked from here too", x.refusal(0), 2);
        due("back", x.step(2), 2);
    }

    // ---- plans

    private static void plansInABareCorridor() {
        for (int from = 0; from < 16; from++) {
            FoldedKeys x = new FoldedKeys();
            x.stand(from);
            for (int to = 0; to < 16; to++) {
                String step = to < from ? "0" : "1";
                due("from " + from + " to " + to, x.cell(to, 6), Math.abs(from - to));
                due("its first step", x.plan(to, 0), to == from ? -1 : to < from ? 0 : 1);
                due("none after its last", x.plan(to, Math.abs(from - to)), -1);
                if (to == 0 || to == 15) {
                    duePlan("from " + from, x, to, step.repeat(Math.abs(from - to)));
                }
            }
        }
    }

    private static void theWalkersOwnCell() {
        for (int cell = 0; cell < 16; cell++) {
            FoldedKeys x = withHand(1);
            x.stand(cell);
            duePlan("own cell", x, cell, "");
            due("saved", x.count(6), 3);
            due("no steps", x.walk(cell), 0);
            due("saved also then", x.count(6), 4);
            due("there", x.walker(0), cell);
            due("no step is counted", x.walker(2), 1);
            due("the hand stays", x.walker(1), 1);
            due("one undo", x.undo(), 3);
            due("there still", x.walker(0), cell);
        }
        FoldedKeys shut = made(".a");
        duePlan("shut in", shut, 0, "");
        due("shut in: cells", shut.count(3), 1);
        due("shut in: most steps", shut.count(4), 0);
    }

    private static void cellsWithoutAPlan() {
        FoldedKeys x = made(".a..............");
        for (int cell = 1; cell < 16; cell++) {
            dueNoPlan("behind the door", x, cell);
            due("nor later steps", x.plan(cell, 1), -1);
        }
        due("counted out", x.count(3), 1);
        due("no plan is the most steps", x.count(4), 0);
        FoldedKeys one = made("...............a.");
        dueNoPlan("the last alone", one, 15);
        due("the last alone: cells", one.count(3), 15);
        due("the last alone: most steps", one.count(4), 14);
        FoldedKeys behind = made(".a1");
        dueNoPlan("its key behind the door", behind, 1);
        FoldedKeys wrong = made("2a");
        dueNoPlan("a key of another bow", wrong, 1);
    }

    private static void oneHandCarriesOneKeyAlone() {
        FoldedKeys x = made(".2a1b");
        x.stand(2);
        dueNoPlan("the second key can't come out", x, 3);
        due("the cells before", x.count(3), 3);
        x.ladder(1, true);
        x.fold(2);
        duePlan("by the ladder it can", x, 3, "2431");
        x.key(2, 2);
        duePlan("nor is it needed", x, 3, "41");
    }

    private static void theFewestSteps() {
        FoldedKeys x = made(".a");
        x.key(15, 1);
        x.stand(8);
        duePlan("fetched from the end", x, 0, "1111111" + "4" + "000000000000000");
        due("the most steps", x.count(4), 23);
        due("the last step", x.plan(0, 22), 0);
        due("none after it", x.plan(0, 23), -1);
        x.key(3, 1);
        duePlan("the nearer key", x, 0, "00000" + "4" + "000");
        due("as many as said", x.walk(0), 9);
        due("there", x.walker(0), 0);
        FoldedKeys y = made(".1.a..2b");
        duePlan("both keys", y, 8, "14" + "1111" + "4" + "111");
        y.walk(2);
        duePlan("back for the first key", y, 3, "0411");
        y.walk(3);
        duePlan("with it in the hand", y, 5, "11");
        duePlan("changed for the second", y, 6, "1141");
    }

    private static void theFirstOfSeveralPlans() {
        FoldedKeys fold = made("...|.");
        fold.fold(3);
        fold.stand(3);
        duePlan("0 before 2", fold, 2, "0");
        fold.stand(2);
        duePlan("1 before 3", fold, 3, "1");
        duePlan("11 before 31", fold, 4, "11");
        FoldedKeys left = made(".|");
        left.fold(2);
        left.stand(1);
        duePlan("03 before 11", left, 3, "03");
        FoldedKeys keys = made("11a");
        duePlan("141 before 411", keys, 2, "141");
        FoldedKeys later = made(".11a");
        duePlan("1141 before 1411", later, 3, "1141");
        FoldedKeys over = made("..1|..1a");
        over.stand(2);
        duePlan("341 before 431", over, 6, "341");
        duePlan("11 before 30", over, 4, "11");
        FoldedKeys down = new FoldedKeys();
        down.ladder(5, true);
        down.stand(5);
        duePlan("00 before 21", down, 3, "00");
        duePlan("fewer before lower: 2", down, 2, "2");
        down.stand(2);
        duePlan("fewer before lower: 3", down, 5, "3");
    }

    /** The plans were found beside the class, by a solver written from the document's words. */
    private static void longPlans() {
        dueLong(2, ".|b2|b.a.a.|b1a.|b.a.|b.a.|b...|.|b.", "33333112222413130020200240331333311");
        dueLong(2, ".|a.b.|b.b.|b1|.|b..b.|a.b.|a..b2|a.", "33313313400202204220333131131");
        dueLong(3, ".a.|.|a2a.b.|b.b1..|.b.|.|.|.b.", "333111200411130022211142031111131");
        dueLong(4, ".|b2a.|..a...|a.a..a.|.|.|a1|b.", "30021131120340002000403002113112031");
        dueLong(6, ".|b.|.|.|b.a1|.|.|..b.a.a.|.2a.", "33114002211113004031120311111");
    }

    private static void dueLong(int length, String text, String steps) {
        FoldedKeys x = made(text);
        x.fold(length);
        duePlan("long, " + text, x, 15, steps);
        due("long: cells", x.count(3), 16);
        due("long: most steps", x.count(4), steps.length());
        due("long: walked", x.walk(15), steps.length());
        due("long: there", x.walker(0), 15);
        due("long: steps", x.walker(2), steps.length());
        due("long: swaps", x.walker(3), steps.replaceAll("[^4]", "").length());
    }

    /** However the keys lie, what was found before is no matter to what is found next. */
    private static void keysInEveryTwoCells() {
        for (int first = 0; first < 16; first++) {
            for (int second = 0; second < 16; second++) {
                FoldedKeys x = new FoldedKeys();
                x.key(first, 1);
                x.key(second, 2);
                String what = "keys in " + first + " and " + second;
                due(what + ": cells", x.count(3), 16);
                due(what + ": cells again", x.count(3), 16);
                x.door(14, 5);
                due(what + ": all but one", x.count(3), 15);
                due(what + ": all but one again", x.count(3), 15);
                x.door(14, 2);
                String own = "1".repeat(second) + "4" + "1".repeat(15 - second);
                String none = "1".repeat(15);
                if (second == 15) {
                    dueNoPlan(what, x, 15);
                } else {
                    duePlan(what, x, 15, own);
                }
                x.door(14, 0);
                duePlan(what + ": no door", x, 15, none);
            }
        }
    }

    private static void plansFromNowOn() {
        FoldedKeys x = made("1.a");
        duePlan("now", x, 2, "411");
        x.step(4);
        duePlan("with the key in the hand", x, 2, "11");
        x.stand(2);
        duePlan("from behind the door", x, 0, "00");
        x.step(4);
        duePlan("taken again", x, 0, "400");
        x.key(2, 0);
        dueNoPlan("no key any more", x, 0);
        x.undo();
        duePlan("after an undo", x, 0, "400");
        x.door(1, 0);
        duePlan("without the door", x, 0, "00");
        x.ladder(2, true);
        x.fold(2);
        x.door(1, 5);
        duePlan("by a ladder", x, 0, "20");
    }

    // ---- input text

    /** Behind this text just these signs stand right, of all that can be appended. */
    private static void dueNext(String before, String signs) {
        for (int code = 33; code <= 126; code++) {
            FoldedKeys x = new FoldedKeys();
            type(x, before);
            due("before the next sign", x.firstError(), before.length());
            x.append(code);
            boolean fine = signs.indexOf(code) >= 0;
            due(before + " then " + (char) code, x.firstError(), before.length() + (fine ? 1 : 0));
        }
    }

    private static void whatMayStandNext() {
        dueNext("", ".12345");
        dueNext(".", ".12345|abcde");
        dueNext("5", ".12345|abcde");
        dueNext(".|", ".12345abcde");
        dueNext(".a", ".12345");
        dueNext("1|e", ".12345");
        dueNext("12", ".|abcde");
        dueNext("3.3|", ".abcde");
        dueNext("1a5b", ".");
        dueNext(FIRST_15, ".12345|abcde");
        dueNext(FIRST_15 + "|", ".12345abcde");
        dueNext(FIRST_15 + "e", ".12345");
        dueNext(FIRST_15 + "|a", ".12345");
        dueNext("12" + FIRST_15.substring(2) + "b", ".");
        dueNext(FIRST_15 + "1", "|");
        dueNext(BARE, "|");
        dueNext(BARE + "|", "");
        dueNext(".|a".repeat(15) + ".|", "");
    }

    private static void theFirstErrorOfSeveral() {
        FoldedKeys x = new FoldedKeys();
        type(x, ".|x..|||0");
        due("the first alone", x.firstError(), 2);
        x.clearBuffer();
        due("an empty buffer", x.firstError(), 0);
        for (String wrong : new String[] {"|", "a", "x"}) {
            type(x, ".|.");
            x.firstError();
            type(x, wrong + "...");
            due("nothing is kept from the text before, " + wrong, x.firstError(), 0);
        }
        type(x, "12");
        x.firstError();
        type(x, "34");
        due("nor its digits", x.firstError(), 2);
        type(x, BARE);
        x.firstError();
        type(x, ".");
        due("nor its cells", x.firstError(), 1);
        FoldedKeys full = new FoldedKeys();
        full.key(0, 1);
        full.key(1, 2);
        type(full, "33");
        due("the keys that are there are no matter", full.firstError(), 2);
    }

    private static void whatStoodBehindTheEndIsGone() {
        FoldedKeys x = new FoldedKeys();
        type(x, "1|a".repeat(2) + BARE);
        type(x, FIRST_15);
        due("15 cells", x.firstError(), 15);
        refused("15 cells", x, ARGUMENT, () -> x.corridor());
        type(x, BARE + "|");
        type(x, BARE);
        due("16 cells", x.corridor(), 0);
        due("no ladder from the text before", x.cell(15, 2), 0);
        type(x, FIRST_15 + "3");
        type(x, FIRST_15 + ".");
        due("no key from the text before", x.corridor(), 0);
        type(x, ".");
        refused("a corridor is read once", x, ARGUMENT, () -> x.corridor());
    }

    private static void aFullBuffer() {
        FoldedKeys x = new FoldedKeys();
        String longest = ".|a".repeat(15) + ".|";
        type(x, longest);
        due("the longest text", longest.length(), 47);
        for (int length = 48; length <= 59; length++) {
            due("longer", x.append('.'), length);
        }
        due("59: the first error", x.firstError(), 47);
        due("the 60th", x.append('~'), 60);
        refused("the 61st", x, STATE, () -> x.append('.'));
        refused("no corridor", x, ARGUMENT, () -> x.corridor());
        due("60: the first error", x.firstError(), 47);
        due("60: cleared", x.clearBuffer(), 60);
        due("60: cleared once", x.clearBuffer(), 0);
        due("room again", x.append('.'), 1);
        due("the old signs are gone", x.firstError(), 1);
        for (int length = 2; length <= 60; length++) {
            due("full again", x.append('.'), length);
        }
        refused("full again", x, STATE, () -> x.append('!'));
        due("the first error behind 16 cells", x.firstError(), 16);
    }

    private static void dueCorridor(String text, int keys) {
        FoldedKeys x = new FoldedKeys();
        type(x, text);
        if (keys == -1) {
            refused("no corridor: " + text, x, ARGUMENT, () -> x.corridor());
            due("the buffer stays", x.clearBuffer(), text.length());
            due("none saved", x.count(6), 0);
        } else {
            due("a corridor: " + text, x.corridor(), keys);
            due("its keys", x.count(0), keys);
            due("the buffer is cleared", x.clearBuffer(), 0);
            due("one saved", x.count(6), 1);
        }
    }

    private static void completeOrNot() {
        dueCorridor("", -1);
        dueCorridor(".", -1);
        dueCorridor("|", -1);
        dueCorridor(FIRST_15, -1);
        dueCorridor(FIRST_15 + "|", -1);
        dueCorridor(FIRST_15 + "|a", -1);
        dueCorridor(FIRST_15 + "x", -1);
        dueCorridor(BARE, 0);
        dueCorridor(BARE + "|", 0);
        dueCorridor(BARE + "a", -1);
        dueCorridor(BARE + "|a", -1);
        dueCorridor(BARE + "||", -1);
        dueCorridor(BARE + ".", -1);
        dueCorridor(BARE + "1", -1);
        dueCorridor("x" + BARE, -1);
        dueCorridor("1" + FIRST_15, 1);
        dueCorridor(FIRST_15 + "5", 1);
        dueCorridor("55" + FIRST_15.substring(1), 2);
        dueCorridor("1" + FIRST_15.substring(1) + "5|", 2);
        dueCorridor("123" + BARE.substring(3), -1);
        dueCorridor("11" + FIRST_15.substring(2) + "1", -1);
        dueCorridor(".|a".repeat(15) + ".|", 0);
        dueCorridor(".|e".repeat(15) + "3", 1);
    }

    private static void everySignInEveryCell() {
        for (int cell = 0; cell < 16; cell++) {
            for (int bow = 1; bow <= 5; bow++) {
                char lock = (char) ('a' + bow - 1);
                String sign = bow + "|" + (cell < 15 ? "" + lock : "");
                FoldedKeys x = new FoldedKeys();
                type(x, BARE.substring(16 - cell) + sign + BARE.substring(cell + 1));
                String what = "cell " + cell + ": " + sign;
                due(what, x.corridor(), 1);
                for (int other = 0; other < 16; other++) {
                    int own = other == cell ? 1 : 0;
                    due(what + ", key in " + other, x.cell(other, 0), own * bow);
                    due(what + ", door behind " + other, x.cell(other, 1), cell < 15 ? own * bow : 0);
                    due(what + ", ladder in " + other, x.cell(other, 2), own);
                }
            }
        }
    }

    private static void aCorridorTakesThePlaceOfAnother() {
        for (int length : new int[] {2, 8}) {
            FoldedKeys x = new FoldedKeys();
            x.fold(length);
            x.key(0, 1);
            x.step(4);
            x.key(9, 2);
            x.door(0, 1);
            x.door(14, 2);
            x.ladder(0, true);
            x.ladder(15, true);
            x.step(1);
            type(x, "...33...........");
            due("two new keys beside none of the old", x.corridor(), 2);
            due("keys", x.count(0), 2);
            due("new bows", x.cell(3, 0) * 10 + x.cell(4, 0), 33);
            due("no old key", x.cell(9, 0), 0);
            due("an empty hand", x.walker(1), 0);
            due("in the cell 0", x.walker(0), 0);
            due("no old doors", x.count(1), 0);
            due("no old ladders", x.count(2) + x.cell(0, 2) + x.cell(15, 2), 0);
            due("the setting stays", x.count(5), length);
            due("the counts stay", x.walker(2) * 100 + x.walker(3) * 10 + x.walker(4), 211);
            x.undo();
            due("undone: the hand", x.walker(1), 1);
            due("undone: the cell", x.walker(0), 1);
            due("undone: the key", x.cell(9, 0), 2);
            due("undone: doors", x.count(1), 2);
            due("undone: ladders told", x.cell(0, 2) + x.cell(15, 2), 2);
            due("undone: the buffer stays empty", x.clearBuffer(), 0);
        }
    }

    // ---- undo

    private static void sixSavedStates() {
        FoldedKeys x = new FoldedKeys();
        refused("none at first", x, STATE, () -> x.undo());
        for (int call = 1; call <= 8; call++) {
            x.stand(call);
            due("saved after " + call, x.count(6), Math.min(call, 6));
        }
        for (int left = 5; left >= 0; left--) {
            due("left", x.undo(), left);
            due("saved", x.count(6), left);
            due("the latest first", x.walker(0), left + 2);
        }
        refused("none left", x, STATE, () -> x.undo());
        due("the two oldest were dropped", x.walker(0), 2);
    }

    private static void exactlySixAndSeven() {
        for (int calls = 5; calls <= 7; calls++) {
            FoldedKeys x = new FoldedKeys();
            for (int call = 1; call <= calls; call++) {
                x.stand(call);
            }
            int undone = Math.min(calls, 6);
            for (int left = undone - 1; left >= 0; left--) {
                due(calls + " calls, left", x.undo(), left);
            }
            dueThrown(calls + " calls, no more", STATE, () -> x.undo());
            due(calls + " calls, back in", x.walker(0), calls - undone);
        }
    }

    /** Saving and dropping by turns, so that the place of the latest goes round many times. */
    private static void roundAndRound() {
        FoldedKeys x = new FoldedKeys();
        int[] cells = new int[200];
        int depth = 0;
        int saved = 0;
        for (int turn = 0; turn < 16; turn++) {
            for (int call = 0; call < 1 + turn % 7; call++) {
                depth++;
                cells[depth] = (3 * depth + turn) % 16;
                x.stand(cells[depth]);
                saved = Math.min(saved + 1, 6);
            }
            for (int call = 0; call < turn % 4 && saved > 0; call++) {
                depth--;
                saved--;
                due("turn " + turn + ": left", x.undo(), saved);
                due("turn " + turn + ": back in", x.walker(0), cells[depth]);
            }
            due("turn " + turn + ": saved", x.count(6), saved);
        }
        for (; saved > 0; saved--) {
            x.undo();
            depth--;
            due("at last back in", x.walker(0), cells[depth]);
        }
        dueThrown("at last", STATE, () -> x.undo());
    }

    private static void dueSaved(String what, FoldedKeys x, int saved, Call call) {
        int before = x.count(6);
        call.run();
        due(what + ": saved", x.count(6) - before, saved);
    }

    private static void whatSavesAlsoIfNothingChanges() {
        FoldedKeys x = new FoldedKeys();
        dueSaved("door", x, 1, () -> x.door(0, 0));
        dueSaved("key", x, 1, () -> x.key(0, 0));
        dueSaved("ladder", x, 1, () -> x.ladder(0, false));
        dueSaved("fold", x, 1, () -> x.fold(4));
        dueSaved("stand", x, 1, () -> x.stand(0));
        dueSaved("walk", x, 1, () -> x.walk(0));
        FoldedKeys y = new FoldedKeys();
        type(y, BARE);
        dueSaved("corridor", y, 1, () -> y.corridor());
        dueSaved("step", y, 1, () -> y.step(1));
        dueSaved("a long walk", y, 1, () -> y.walk(15));
        for (int left = 5; left >= 0; left--) {
            due("nothing changes back", x.undo(), left);
        }
        due("as new", x.digest(), new FoldedKeys().digest());
    }

    private static void whatDoesNotSave() {
        FoldedKeys x = new FoldedKeys();
        x.door(3, 1);
        dueSaved("append", x, 0, () -> x.append('.'));
        dueSaved("firstError", x, 0, () -> x.firstError());
        dueSaved("corridor that throws", x, 0, () -> dueThrown("not complete", ARGUMENT, () -> x.corridor()));
        dueSaved("step that throws", x, 0, () -> dueThrown("refused", STATE, () -> x.step(0)));
        dueSaved("walk that throws", x, 0, () -> dueThrown("no plan", STATE, () -> x.walk(4)));
        dueSaved("clearBuffer", x, 0, () -> x.clearBuffer());
        dueSaved("undo drops", x, -1, () -> x.undo());
        due("and is not undone", x.cell(3, 1), 0);
        dueThrown("nor brought again", STATE, () -> x.undo());
    }

    private static final List<Consumer<FoldedKeys>> UNDOABLE = List.of(
        x -> x.door(14, 5), x -> x.key(15, 5), x -> x.ladder(15, true), x -> x.fold(8),
        x -> x.stand(14), x -> x.stand(15), x -> x.step(4), x -> x.step(0), x -> x.step(4),
        x -> x.walk(0),
        x -> {
            type(x, "1a" + FIRST_15);
            x.corridor();
        },
        x -> x.walk(1));

    private static FoldedKeys afterCalls(int calls) {
        FoldedKeys x = new FoldedKeys();
        for (int call = 0; call < calls; call++) {
            UNDOABLE.get(call).accept(x);
        }
        return x;
    }

    private static void whatUndoBringsBack() {
        for (int call = 0; call < UNDOABLE.size(); call++) {
            long before = digestButSaved(afterCalls(call));
            long after = digestButSaved(afterCalls(call + 1));
            dueText("call " + call + " changes", "" + (before != after), "true");
            FoldedKeys undone = afterCalls(call + 1);
            undone.undo();
            due("call " + call + " undone", digestButSaved(undone), before);
            FoldedKeys again = afterCalls(call + 1);
            again.undo();
            UNDOABLE.get(call).accept(again);
            due("call " + call + " again", digestButSaved(again), after);
        }
    }

    /** The hash of what is looked at, but for how many states are saved. */
    private static long digestButSaved(FoldedKeys x) {
        return hashOf(x, "", false).longValue();
    }

    private static void countsComeBack() {
        FoldedKeys x = made("1a");
        x.walk(2);
        due("steps, swaps, doors", x.walker(2) * 100 + x.walker(3) * 10 + x.walker(4), 311);
        x.step(0);
        x.step(0);
        x.step(4);
        due("more", x.walker(2) * 100 + x.walker(3) * 10 + x.walker(4), 622);
        x.undo();
        due("without the swap", x.walker(2) * 100 + x.walker(3) * 10 + x.walker(4), 512);
        x.undo();
        due("without the door", x.walker(2) * 100 + x.walker(3) * 10 + x.walker(4), 411);
        x.undo();
        x.undo();
        due("without the walk", x.walker(2) * 100 + x.walker(3) * 10 + x.walker(4), 0);
    }

    private static void theBufferIsNoPartOfIt() {
        FoldedKeys x = new FoldedKeys();
        type(x, "12");
        x.stand(3);
        x.append('3');
        x.undo();
        due("what was appended stays", x.clearBuffer(), 3);
        x.stand(3);
        type(x, "....");
        x.stand(4);
        x.clearBuffer();
        x.undo();
        due("what was cleared is gone", x.firstError(), 0);
        type(x, "1x");
        x.undo();
        due("the signs stay", x.firstError(), 1);
        due("both", x.clearBuffer(), 2);
    }

    // ---- looks

    private static void theLeastAndTheMostThatIsCounted() {
        FoldedKeys x = made("1a");
        due("keys with that in the cell", x.count(0), 1);
        x.step(4);
        due("keys with that in the hand", x.count(0), 1);
        x.key(0, 0);
        x.fold(2);
        due("the shortest floor", x.count(5), 2);
        x.fold(8);
        due("the longest floor", x.count(5), 8);
        FoldedKeys far = new FoldedKeys();
        due("most steps to the far end", far.count(4), 15);
        far.stand(7);
        due("most steps from the middle", far.count(4), 8);
        far.stand(15);
        due("most steps back", far.count(4), 15);
    }

    private static void ifDoorAtItsEnds() {
        FoldedKeys x = made("1...............");
        for (int place = 0; place <= 14; place++) {
            due("no door at " + place, x.ifDoor(place, 0), 16);
            due("one for the key at " + place, x.ifDoor(place, 1), 16);
            due("one without a key at " + place, x.ifDoor(place, 5), place + 1);
        }
        x.step(4);
        x.stand(15);
        due("from the other end, with the key in the hand", x.ifDoor(14, 1), 16);
        due("from the other end", x.ifDoor(14, 2), 1);
        due("from the other end, the first", x.ifDoor(0, 3), 15);
        x.door(0, 3);
        due("the same lock", x.ifDoor(0, 3), x.count(3));
        due("instead of it", x.ifDoor(0, 1), 16);
        due("beside it", x.ifDoor(1, 2), 14);
        due("the door is as it was", x.cell(0, 1), 3);
        due("and the other", x.cell(1, 1), 0);
    }

    private static void withoutAtItsEnds() {
        FoldedKeys x = made("1.a");
        due("without that in the first cell", x.without(0), 2);
        for (int cell = 1; cell < 16; cell++) {
            due("none in " + cell, x.without(cell), 16);
        }
        FoldedKeys y = made(FIRST_15 + "1");
        y.door(0, 1);
        y.stand(1);
        due("with that in the last cell", y.count(3), 16);
        due("without it", y.without(15), 15);
        due("it lies there still", y.cell(15, 0), 1);
        y.key(2, 1);
        due("by the other", y.without(15), 16);
        due("by this", y.without(2), 16);
        FoldedKeys z = made("1a");
        z.step(4);
        due("that in the hand stays", z.without(0), 16);
        z.key(0, 2);
        due("also beside one in the cell", z.without(0), 16);
        due("the hand", z.walker(1), 1);
        due("the cell", z.cell(0, 0), 2);
    }

    private static FoldedKeys shutButFor(int open) {
        FoldedKeys x = new FoldedKeys();
        for (int place = 0; place <= 14; place++) {
            x.door(place, place == open ? 0 : 1);
        }
        x.ladder(0, true);
        return x;
    }

    private static void bestFolds() {
        due("all alike", new FoldedKeys().bestFold(), 2);
        for (int length = 2; length <= 8; length++) {
            // By this length alone the ladder from 0 leads to a cell with a free neighbour.
            int open = Math.min(2 * length - 1, 14);
            FoldedKeys x = shutButFor(open);
            due("most cells", x.bestFold(), length);
            for (int now = 2; now <= 8; now++) {
                x.fold(now);
                due("most cells, now " + now, x.bestFold(), length);
                due("the setting stays", x.count(5), now);
            }
        }
        FoldedKeys two = shutButFor(13);
        two.door(7, 0);
        due("of 4 and 7 the least", two.bestFold(), 4);
        FoldedKeys fewest = new FoldedKeys();
        fewest.ladder(0, true);
        due("the fewest steps", fewest.bestFold(), 6);
        FoldedKeys more = shutButFor(11);
        more.door(12, 0);
        more.door(5, 0);
        due("most cells before the fewest steps", more.bestFold(), 6);
        FoldedKeys none = shutButFor(0);
        none.ladder(0, false);
        due("none better than another", none.bestFold(), 2);
    }

    /** The best length by the document's words, from what there is with each. */
    private static int bestOfAll(FoldedKeys x) {
        int best = 0;
        long bestRank = Long.MIN_VALUE;
        for (int length = 2; length <= 8; length++) {
            x.fold(length);
            long rank = 0;
            for (int cell = 0; cell < 16; cell++) {
                int steps = x.cell(cell, 6);
                rank += steps == -1 ? 0 : 1000000 - steps;
            }
            if (rank > bestRank) {
                best = length;
                bestRank = rank;
            }
        }
        return best;
    }

    private static void bestFoldsOfManyCorridors() {
        for (int told = 0; told < 16; told++) {
            for (int at = 0; at < 16; at++) {
                FoldedKeys x = new FoldedKeys();
                x.ladder(told, true);
                x.stand(at);
                int best = x.bestFold();
                due("told " + told + ", walker in " + at, best, bestOfAll(x));
                FoldedKeys y = new FoldedKeys();
                y.ladder(told, true);
                y.ladder((told + 5) % 16, true);
                y.door((told + 3) % 15, 1);
                y.door((told + 10) % 15, 2);
                y.key((told + at) % 16, 1 + at % 2);
                y.stand(at);
                best = y.bestFold();
                due("doors, told " + told + ", walker in " + at, best, bestOfAll(y));
            }
        }
    }

    private static void everyShare() {
        for (int cells = 1; cells <= 16; cells++) {
            FoldedKeys x = new FoldedKeys();
            if (cells < 16) {
                x.door(cells - 1, 1);
            }
            dueText(cells + " cells", "" + x.reached(), "" + cells / 16.0);
            due(cells + " cells, the hash", x.digest(), hashOf(x, "", true).longValue());
        }
    }

    // ---- the hash

    private static BigInteger mixed(BigInteger hash, long value) {
        return hash.multiply(BigInteger.valueOf(31)).add(BigInteger.valueOf(value));
    }

    /** The hash by the document's words, without overflow. */
    private static BigInteger hashOf(FoldedKeys x, String buffer, boolean withSaved) {
        BigInteger hash = BigInteger.valueOf(3319);
        for (int what = 0; what <= (withSaved ? 6 : 5); what++) {
            hash = mixed(hash, x.count(what));
        }
        for (int what = 0; what <= 4; what++) {
            hash = mixed(hash, x.walker(what));
        }
        for (int cell = 0; cell < 16; cell++) {
            for (int what = 0; what <= 6; what++) {
                hash = mixed(hash, x.cell(cell, what));
            }
        }
        for (int step = 0; step <= 4; step++) {
            hash = mixed(hash, x.refusal(step));
        }
        for (char step : planTo(x, 15).toCharArray()) {
            hash = mixed(hash, step - '0');
        }
        hash = mixed(hash, x.without(0));
        hash = mixed(hash, x.ifDoor(7, 3));
        hash = mixed(hash, Double.doubleToLongBits(x.reached()));
        hash = mixed(hash, buffer.length());
        for (char sign : buffer.toCharArray()) {
            hash = mixed(hash, sign);
        }
        return hash;
    }

    /** The last 64 bits of the hash without overflow are that with it. */
    private static void dueHash(String what, FoldedKeys x, String buffer) {
        type(x, buffer);
        BigInteger whole = hashOf(x, buffer, true);
        dueText(what + ": it overflows", "" + (whole.bitLength() > 64), "true");
        due(what, x.digest(), whole.longValue());
        due(what + ", again", x.digest(), whole.longValue());
    }

    private static void hashes() {
        // Worked out beside the class, from the document's words.
        due("new", new FoldedKeys().digest(), NEW_HASH);
        dueHash("new", new FoldedKeys(), "");
        dueHash("a full buffer", new FoldedKeys(), "!~".repeat(30));
        dueHash("no plan to 15", made("1....e"), ".");
        dueHash("without the key of 0 less", made("1....a"), "..");
        FoldedKeys there = withHand(5);
        there.stand(15);
        dueHash("in 15 already", there, "5|e");
        FoldedKeys all = made(".|".repeat(16));
        all.fold(2);
        dueHash("all ladders", all, "");
        for (int lock = 1; lock <= 5; lock++) {
            FoldedKeys x = made("." + lock);
            dueHash("a key for one lock alone, " + lock, x, "");
            x.door(7, lock);
            dueHash("and a door for it, " + lock, x, "");
        }
        for (int place = 6; place <= 8; place++) {
            FoldedKeys x = made("..");
            x.door(place, 4);
            dueHash("a door at " + place, x, "");
        }
        int[] cells = {1, 6, 4, 0, 15};
        for (int walks = 1; walks <= cells.length; walks++) {
            FoldedKeys x = made("1a....2|.b....|");
            for (int walk = 0; walk < walks; walk++) {
                x.walk(cells[walk]);
            }
            dueHash("after " + walks + " walks", x, "|");
        }
    }

    // ---- many calls

    private static void fiveHundredAndTwelveCalls() {
        FoldedKeys x = new FoldedKeys();
        x.key(0, 1);
        x.door(0, 1);
        x.step(4);
        for (int call = 4; call <= 507; call++) {
            x.step(call % 2 == 0 ? 1 : 0);
        }
        due("508: steps", x.walker(2), 505);
        due("509: doors", x.walker(4), 504);
        due("510: saved", x.count(6), 6);
        due("511: undone", x.undo(), 5);
        due("512: there", x.walker(0), 1);
        FoldedKeys walks = new FoldedKeys();
        for (int call = 1; call <= 510; call++) {
            walks.walk(call % 2 == 1 ? 15 : 0);
        }
        due("511: steps of 510 walks", walks.walker(2), 510 * 15);
        due("512: back", walks.walker(0), 0);
    }

    public static void main(String[] args) {
        doorsAtEveryPlaceWithEveryLock();
        floorsAreRoundedDown();
        laddersByEveryCellAlone();
        laddersOfAllCells();
        aLadderIsOneIfBothAreTold();
        aCellToldOfALadderThatIsNotThere();
        atMostTwoKeysInCells();
        atMostTwoKeysWithTheHand();
        everyBowInTheHand();
        stepsAtTheEndsOfTheCorridor();
        stepsByEveryLadder();
        whatChangesPlaces();
        everyLockWithEveryHand();
        onlyTheHandOpens();
        aRefusedStepCountsNothing();
        aLadderGoesPastADoor();
        plansInABareCorridor();
        theWalkersOwnCell();
        cellsWithoutAPlan();
        oneHandCarriesOneKeyAlone();
        theFewestSteps();
        theFirstOfSeveralPlans();
        longPlans();
        keysInEveryTwoCells();
        plansFromNowOn();
        whatMayStandNext();
        theFirstErrorOfSeveral();
        whatStoodBehindTheEndIsGone();
        aFullBuffer();
        completeOrNot();
        everySignInEveryCell();
        aCorridorTakesThePlaceOfAnother();
        sixSavedStates();
        exactlySixAndSeven();
        roundAndRound();
        whatSavesAlsoIfNothingChanges();
        whatDoesNotSave();
        whatUndoBringsBack();
        countsComeBack();
        theBufferIsNoPartOfIt();
        theLeastAndTheMostThatIsCounted();
        ifDoorAtItsEnds();
        withoutAtItsEnds();
        bestFolds();
        bestFoldsOfManyCorridors();
        everyShare();
        hashes();
        fiveHundredAndTwelveCalls();
        tell();
    }
}
