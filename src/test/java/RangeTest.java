import java.util.ArrayList;
import java.util.Arrays;
import java.util.LinkedHashSet;
import java.util.List;
import java.util.Set;

/**
 * Each range of an argument at its ends and outside them; which exception comes
 * first if several apply; and that what throws, or only looks, changes nothing.
 */
public final class RangeTest extends Checks {
    private interface Maker {
        FoldedKeys make();
    }

    private interface Use {
        void on(FoldedKeys x);
    }

    private interface UseOf {
        void on(FoldedKeys x, int number);
    }

    /** Nothing saved, an empty buffer. */
    private static final Maker NEW = () -> new FoldedKeys();

    /** In the cell 5 of floors of 2 no step is refused; there are 2 keys, and 6 saved states. */
    private static final Maker BUSY = () -> {
        FoldedKeys x = new FoldedKeys();
        x.key(0, 3);
        x.step(4);
        x.ladder(5, true);
        x.fold(2);
        x.stand(5);
        x.step(4);
        x.key(0, 2);
        type(x, "12");
        return x;
    };

    /** A walker who is shut in, with one key in the hand and one in the cell, and a full buffer. */
    private static final Maker SHUT = () -> {
        FoldedKeys x = made("...............|.");
        x.key(8, 4);
        x.stand(8);
        x.step(4);
        x.key(8, 5);
        x.door(7, 1);
        x.door(8, 2);
        while (x.append('.') < 60) {
            continue;
        }
        return x;
    };

    private static final List<Maker> ALL = List.of(NEW, BUSY, SHUT);

    // ---- all that can be asked of an object

    private static void addLooks(FoldedKeys x, List<Long> trace) {
        for (int what = 0; what <= 6; what++) {
            for (int cell = 0; cell < 16; cell++) {
                trace.add((long) x.cell(cell, what));
            }
            trace.add((long) x.count(what));
        }
        for (int what = 0; what <= 4; what++) {
            trace.add((long) x.walker(what));
            trace.add((long) x.refusal(what));
        }
        for (int cell = 0; cell < 16; cell++) {
            trace.add((long) planTo(x, cell).hashCode());
        }
    }

    /** The looks, then what is saved, one undo after the other, and what the buffer has. */
    private static List<Long> traceOf(FoldedKeys x) {
        List<Long> trace = new ArrayList<>();
        trace.add(x.digest());
        addLooks(x, trace);
        while (x.count(6) > 0) {
            trace.add((long) x.undo());
            trace.add(x.digest());
        }
        trace.add((long) x.firstError());
        trace.add((long) x.clearBuffer());
        return trace;
    }

    private static String difference(List<Long> got, List<Long> want) {
        for (int index = 0; index < Math.min(got.size(), want.size()); index++) {
            if (!got.get(index).equals(want.get(index))) {
                return "at " + index + " " + got.get(index) + " for " + want.get(index);
            }
        }
        return got.size() == want.size() ? "nothing" : got.size() + " for " + want.size();
    }

    private static void dueUnchanged(String what, Maker maker, Use use) {
        FoldedKeys used = maker.make();
        use.on(used);
        dueText(what + ": what has changed", difference(traceOf(used), traceOf(maker.make())), "nothing");
    }

    private static void dueRefused(String what, Maker maker, Class<?> want, Use use) {
        dueUnchanged(what, maker, x -> dueThrown(what, want, () -> use.on(x)));
    }

    // ---- ranges

    private static Set<Integer> outside(int low, int high) {
        long[] far = {16, 32, 100, 128, 256, 1 << 16, 1L << 31, 1L << 32};
        Set<Integer> numbers = new LinkedHashSet<>();
        long[] all = new long[2 * far.length + 4];
        for (int index = 0; index < far.length; index++) {
            all[2 * index] = low - far[index];
            all[2 * index + 1] = high + far[index];
        }
        all[2 * far.length] = low - 1L;
        all[2 * far.length + 1] = high + 1L;
        all[2 * far.length + 2] = Integer.MIN_VALUE;
        all[2 * far.length + 3] = Integer.MAX_VALUE;
        for (long number : all) {
            if ((number < low || number > high) && number == (int) number) {
                numbers.add((int) number);
            }
        }
        return numbers;
    }

    private static void dueRange(String what, int low, int high, Class<?> want, Maker fine, UseOf use) {
        int last = Math.min(high, low + 200);
        for (int number = low; number <= last; number++) {
            int taken = number == last ? high : number;
            FoldedKeys x = fine.make();
            dueThrown(what + " " + taken, null, () -> use.on(x, taken));
        }
        for (int number : outside(low, high)) {
            for (Maker maker : ALL) {
                dueRefused(what + " " + number, maker, want, x -> use.on(x, number));
            }
        }
    }

    private static void rangesOfCorridor() {
        dueRange("2: door, cell", 0, 14, PLACE, NEW, (x, n) -> x.door(n, 1));
        dueRange("2: door, lock", 0, 5, ARGUMENT, NEW, (x, n) -> x.door(0, n));
        dueRange("2: door 14, lock", 0, 5, ARGUMENT, NEW, (x, n) -> x.door(14, n));
        dueRange("3: key, cell", 0, 15, PLACE, NEW, (x, n) -> x.key(n, 1));
        dueRange("3: key, cell, none", 0, 15, PLACE, BUSY, (x, n) -> x.key(n, 0));
        dueRange("3: key, bow", 0, 5, ARGUMENT, NEW, (x, n) -> x.key(0, n));
        dueRange("3: key 15, bow", 0, 5, ARGUMENT, NEW, (x, n) -> x.key(15, n));
        dueRange("4: ladder", 0, 15, PLACE, NEW, (x, n) -> x.ladder(n, true));
        dueRange("4: ladder off", 0, 15, PLACE, BUSY, (x, n) -> x.ladder(n, false));
        dueRange("5: fold", 2, 8, ARGUMENT, NEW, (x, n) -> x.fold(n));
    }

    private static void rangesOfWalking() {
        dueRange("6: stand", 0, 15, PLACE, NEW, (x, n) -> x.stand(n));
        dueRange("7: step", 0, 4, ARGUMENT, BUSY, (x, n) -> x.step(n));
        dueRange("8: walk", 0, 15, PLACE, NEW, (x, n) -> x.walk(n));
        dueRange("9: append", 33, 126, ARGUMENT, NEW, (x, n) -> x.append(n));
    }

    private static void rangesOfLooks() {
        dueRange("14: cell", 0, 15, PLACE, SHUT, (x, n) -> x.cell(n, 6));
        dueRange("14: cell 0, what", 0, 6, ARGUMENT, SHUT, (x, n) -> x.cell(0, n));
        dueRange("14: cell 15, what", 0, 6, ARGUMENT, NEW, (x, n) -> x.cell(15, n));
        dueRange("15: walker", 0, 4, ARGUMENT, NEW, (x, n) -> x.walker(n));
        dueRange("16: plan, cell", 0, 15, PLACE, SHUT, (x, n) -> x.plan(n, 0));
        dueRange("16: plan to 0, place", 0, Integer.MAX_VALUE, ARGUMENT, SHUT, (x, n) -> x.plan(0, n));
        dueRange("16: plan to 15, place", 0, Integer.MAX_VALUE, ARGUMENT, NEW, (x, n) -> x.plan(15, n));
        dueRange("17: count", 0, 6, ARGUMENT, NEW, (x, n) -> x.count(n));
    }

    private static void rangesOfWhatWouldBe() {
        dueRange("18: refusal", 0, 4, ARGUMENT, NEW, (x, n) -> x.refusal(n));
        dueRange("19: ifDoor, cell", 0, 14, PLACE, SHUT, (x, n) -> x.ifDoor(n, 1));
        dueRange("19: ifDoor 0, lock", 0, 5, ARGUMENT, NEW, (x, n) -> x.ifDoor(0, n));
        dueRange("19: ifDoor 14, lock", 0, 5, ARGUMENT, SHUT, (x, n) -> x.ifDoor(14, n));
        dueRange("20: without", 0, 15, PLACE, SHUT, (x, n) -> x.without(n));
    }

    // ---- several exceptions

    /** SHUT has 2 keys, no plan to another cell, and a full buffer: all that can apply, applies. */
    private static void firstOfSeveral() {
        for (int cell : new int[] {-1, 16, Integer.MIN_VALUE, Integer.MAX_VALUE}) {
            for (int bad : new int[] {-1, 7, Integer.MIN_VALUE, Integer.MAX_VALUE}) {
                dueRefused("2: cell and lock", SHUT, PLACE, x -> x.door(cell, bad));
                dueRefused("3: cell, bow and 2 keys", SHUT, PLACE, x -> x.key(cell, bad));
                dueRefused("14: cell and what", SHUT, PLACE, x -> x.cell(cell, bad));
                dueRefused("19: cell and lock", SHUT, PLACE, x -> x.ifDoor(cell, bad));
            }
            dueRefused("3: cell and 2 keys", SHUT, PLACE, x -> x.key(cell, 1));
            dueRefused("8: cell and no plan", SHUT, PLACE, x -> x.walk(cell));
            dueRefused("16: cell and place", SHUT, PLACE, x -> x.plan(cell, -1));
        }
        dueRefused("2: just behind the last door", SHUT, PLACE, x -> x.door(15, 6));
        dueRefused("19: just behind the last door", SHUT, PLACE, x -> x.ifDoor(15, 6));
        for (int cell : new int[] {0, 8, 15}) {
            dueRefused("3: bow and 2 keys", SHUT, ARGUMENT, x -> x.key(cell, 6));
            dueRefused("3: bow below 0 and 2 keys", SHUT, ARGUMENT, x -> x.key(cell, -1));
        }
        for (int code : new int[] {32, 127, 0, -1, Integer.MIN_VALUE, Integer.MAX_VALUE}) {
            dueRefused("9: code and a full buffer", SHUT, ARGUMENT, x -> x.append(code));
        }
        for (int step : new int[] {-1, 5}) {
            dueRefused("7: step and no such step", SHUT, ARGUMENT, x -> x.step(step));
        }
    }

    // ---- what the state forbids

    private static void refusedByTheState() {
        dueRefused("3: a third key", SHUT, STATE, x -> x.key(0, 1));
        dueRefused("3: a third key", BUSY, STATE, x -> x.key(15, 5));
        for (int step = 0; step <= 3; step++) {
            int taken = step;
            dueRefused("7: shut in, " + step, SHUT, STATE, x -> x.step(taken));
        }
        dueRefused("7: no cell", NEW, STATE, x -> x.step(0));
        dueRefused("7: no key", NEW, STATE, x -> x.step(4));
        for (int cell = 0; cell < 16; cell++) {
            int target = cell;
            if (cell != 8) {
                dueRefused("8: no plan to " + cell, SHUT, STATE, x -> x.walk(target));
            }
        }
        dueRefused("9: a full buffer", SHUT, STATE, x -> x.append('.'));
        dueRefused("12: an empty buffer", NEW, ARGUMENT, x -> x.corridor());
        dueRefused("12: a text that goes on", BUSY, ARGUMENT, x -> x.corridor());
        dueRefused("12: a full buffer", SHUT, ARGUMENT, x -> x.corridor());
        dueRefused("13: none saved", NEW, STATE, x -> x.undo());
    }

    // ---- looks

    private static void everyNumber(int low, int high, UseOf use, String what) {
        for (Maker maker : ALL) {
            dueUnchanged(what, maker, x -> {
                for (int number = low; number <= high; number++) {
                    use.on(x, number);
                }
            });
        }
    }

    private static void looksChangeNothing() {
        everyNumber(0, 0, (x, n) -> x.firstError(), "11: firstError");
        everyNumber(0, 111, (x, n) -> x.cell(n / 7, n % 7), "14: cell");
        everyNumber(0, 4, (x, n) -> x.walker(n), "15: walker");
        everyNumber(0, 63, (x, n) -> x.plan(n / 4, n % 4), "16: plan");
        everyNumber(0, 6, (x, n) -> x.count(n), "17: count");
        everyNumber(0, 4, (x, n) -> x.refusal(n), "18: refusal");
        everyNumber(0, 89, (x, n) -> x.ifDoor(n / 6, n % 6), "19: ifDoor");
        everyNumber(0, 15, (x, n) -> x.without(n), "20: without");
        everyNumber(0, 0, (x, n) -> x.bestFold(), "21: bestFold");
        everyNumber(0, 0, (x, n) -> x.reached(), "22: reached");
        everyNumber(0, 0, (x, n) -> x.digest(), "23: digest");
    }

    /** What this test stands on: the objects are what their comments say. */
    private static void makersMake() {
        FoldedKeys busy = BUSY.make();
        due("BUSY: saved", busy.count(6), 6);
        due("BUSY: keys", busy.count(0), 2);
        FoldedKeys shut = SHUT.make();
        due("SHUT: saved", shut.count(6), 6);
        due("SHUT: keys", shut.count(0), 2);
        due("SHUT: cells", shut.count(3), 1);
        due("SHUT: buffer", shut.clearBuffer(), 60);
        int[] kinds = new int[5];
        int[] due = {2, 2, 1, 1, 0};
        for (int step = 0; step <= 4; step++) {
            due("BUSY: step " + step, busy.refusal(step), 0);
            kinds[step] = shut.refusal(step);
        }
        dueText("SHUT: steps", Arrays.toString(kinds), Arrays.toString(due));
    }

    public static void main(String[] args) {
        makersMake();
        rangesOfCorridor();
        rangesOfWalking();
        rangesOfLooks();
        rangesOfWhatWouldBe();
        firstOfSeveral();
        refusedByTheState();
        looksChangeNothing();
        tell();
    }
}
