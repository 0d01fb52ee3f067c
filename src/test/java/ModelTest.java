import java.util.ArrayDeque;
import java.util.HashMap;
import java.util.HashSet;
import java.util.Map;
import java.util.Set;
import java.util.TreeMap;

/**
 * Long runs of chosen calls, each answer beside that of a slow model that is
 * written straight from the document's words, and shares nothing with the class.
 */
public final class ModelTest {
    private static int wrong = 0;
    private static int asked = 0;

    /** One corridor with its walker; a new one is made for each change. */
    private static final class State {
        int[] keys = new int[16];
        int[] locks = new int[15];
        boolean[] told = new boolean[16];
        int length = 4;
        int at = 0;
        int hand = 0;
        int steps = 0;
        int swaps = 0;
        int passed = 0;

        State copy() {
            State s = new State();
            s.keys = keys.clone();
            s.locks = locks.clone();
            s.told = told.clone();
            s.length = length;
            s.at = at;
            s.hand = hand;
            s.steps = steps;
            s.swaps = swaps;
            s.passed = passed;
            return s;
        }

        int keysInAll() {
            int n = hand == 0 ? 0 : 1;
            for (int key : keys) {
                n += key == 0 ? 0 : 1;
            }
            return n;
        }

        boolean over(int low, int high) {
            int floor = low / length;
            return high / length == floor + 1 && low + high == 2 * length * (floor + 1) - 1
                    && (told[low] || told[high]);
        }

        int below(int cell) {
            for (int low = 0; low < 16; low++) {
                if (over(low, cell)) {
                    return low;
                }
            }
            return -1;
        }

        int above(int cell) {
            for (int high = 0; high < 16; high++) {
                if (over(cell, high)) {
                    return high;
                }
            }
            return -1;
        }

        int refusal(int step) {
            if (step == 4) {
                return hand == 0 && keys[at] == 0 ? 1 : 0;
            }
            if (step == 2 || step == 3) {
                return (step == 2 ? below(at) : above(at)) < 0 ? 1 : 0;
            }
            int to = step == 0 ? at - 1 : at + 1;
            if (to < 0 || to > 15) {
                return 1;
            }
            int lock = locks[Math.min(at, to)];
            return lock != 0 && lock != hand ? 2 : 0;
        }

        State after(int step) {
            State s = copy();
            s.steps++;
            if (step == 4) {
                s.hand = keys[at];
                s.keys[at] = hand;
                s.swaps++;
            } else if (step == 2 || step == 3) {
                s.at = step == 2 ? below(at) : above(at);
            } else {
                s.at = step == 0 ? at - 1 : at + 1;
                s.passed += locks[Math.min(at, s.at)] == 0 ? 0 : 1;
            }
            return s;
        }

        String name() {
            StringBuilder b = new StringBuilder();
            b.append((char) ('A' + at)).append(hand);
            for (int key : keys) {
                b.append(key);
            }
            return b.toString();
        }

        /** By cell, the plan to it as digits; null without one. */
        String[] plans() {
            String[] plans = new String[16];
            Set<String> seen = new HashSet<>();
            TreeMap<String, State> level = new TreeMap<>();
            level.put("", this);
            seen.add(name());
            while (!level.isEmpty()) {
                for (Map.Entry<String, State> e : level.entrySet()) {
                    int cell = e.getValue().at;
                    String had = plans[cell];
                    if (had == null || (had.length() == e.getKey().length() && e.getKey().compareTo(had) < 0)) {
                        plans[cell] = e.getKey();
                    }
                }
                HashMap<String, String> first = new HashMap<>();
                HashMap<String, State> states = new HashMap<>();
                for (Map.Entry<String, State> e : level.entrySet()) {
                    for (int step = 0; step < 5; step++) {
                        if (e.getValue().refusal(step) == 0) {
                            State next = e.getValue().after(step);
                            if (!seen.contains(next.name())) {
                                String row = e.getKey() + step;
                                String had = first.get(next.name());
                                if (had == null || row.compareTo(had) < 0) {
                                    first.put(next.name(), row);
                                }
                                states.put(next.name(), next);
                            }
                        }
                    }
                }
                level = new TreeMap<>();
                for (Map.Entry<String, State> e : states.entrySet()) {
                    seen.add(e.getKey());
                    level.put(first.get(e.getKey()), e.getValue());
                }
            }
            return plans;
        }

        int reach() {
            int n = 0;
            for (String plan : plans()) {
                n += plan == null ? 0 : 1;
            }
            return n;
        }
    }

    /** The whole object: throws what the document says. */
    private static final class Model {
        State state = new State();
        ArrayDeque<State> saved = new ArrayDeque<>();
        String buffer = "";

        static void place(boolean fine) {
            if (!fine) {
                throw new IndexOutOfBoundsException();
            }
        }

        static void argument(boolean fine) {
            if (!fine) {
                throw new IllegalArgumentException();
            }
        }

        static void state(boolean fine) {
            if (!fine) {
                throw new IllegalStateException();
            }
        }

        static boolean in(int n, int low, int high) {
            return low <= n && n <= high;
        }

        void to(State next) {
            saved.addLast(state);
            if (saved.size() > 6) {
                saved.removeFirst();
            }
            state = next;
        }

        long call(int which, int a, int b) {
            State s = state.copy();
            int old;
            switch (which) {
                case 0:
                    place(in(a, 0, 14));
                    argument(in(b, 0, 5));
                    old = s.locks[a];
                    s.locks[a] = b;
                    to(s);
                    return old;
                case 1:
                    place(in(a, 0, 15));
                    argument(in(b, 0, 5));
                    old = s.keys[a];
                    s.keys[a] = b;
                    state(s.keysInAll() <= 2);
                    to(s);
                    return old;
                case 2:
                    place(in(a, 0, 15));
                    old = s.told[a] ? 1 : 0;
                    s.told[a] = b % 2 != 0;
                    to(s);
                    return old;
                case 3:
                    argument(in(a, 2, 8));
                    old = s.length;
                    s.length = a;
                    to(s);
                    return old;
                case 4:
                    place(in(a, 0, 15));
                    old = s.at;
                    s.at = a;
                    to(s);
                    return old;
                case 5:
                    argument(in(a, 0, 4));
                    state(s.refusal(a) == 0);
                    to(s.after(a));
                    return state.at;
                case 6:
                    place(in(a, 0, 15));
                    String plan = s.plans()[a];
                    state(plan != null);
                    for (char step : plan.toCharArray()) {
                        s = s.after(step - '0');
                    }
                    to(s);
                    return plan.length();
                case 7:
                    argument(in(a, 33, 126));
                    state(buffer.length() < 60);
                    buffer += (char) a;
                    return buffer.length();
                case 8:
                    old = buffer.length();
                    buffer = "";
                    return old;
                case 9:
                    return firstError();
                case 10:
                    return corridor(s);
                case 11:
                    state(!saved.isEmpty());
                    state = saved.removeLast();
                    return saved.size();
                default:
                    return look(which, a, b);
            }
        }

        /** A text that begins so can be filled up with bare cells. */
        static boolean begins(String text) {
            for (int more = 0; more <= 16; more++) {
                if (whole(text + "................".substring(0, more))) {
                    return true;
                }
            }
            return false;
        }

        static boolean whole(String text) {
            return text.matches("([.1-5][|]?[a-e]?){15}[.1-5][|]?")
                    && text.replaceAll("[^1-5]", "").length() <= 2;
        }

        int firstError() {
            for (int index = 0; index < buffer.length(); index++) {
                if (!begins(buffer.substring(0, index + 1))) {
                    return index;
                }
            }
            return buffer.length();
        }

        int corridor(State s) {
            argument(whole(buffer));
            s.keys = new int[16];
            s.told = new boolean[16];
            s.locks = new int[15];
            s.at = 0;
            s.hand = 0;
            int cell = -1;
            for (char sign : buffer.toCharArray()) {
                if (sign == '.') {
                    cell++;
                } else if (sign == '|') {
                    s.told[cell] = true;
                } else if (sign >= 'a') {
                    s.locks[cell] = sign - 'a' + 1;
                } else {
                    cell++;
                    s.keys[cell] = sign - '0';
                }
            }
            to(s);
            buffer = "";
            return s.keysInAll();
        }

        long look(int which, int a, int b) {
            State s = state.copy();
            switch (which) {
                case 12:
                    place(in(a, 0, 15));
                    argument(in(b, 0, 6));
                    return cell(s.plans(), a, b);
                case 13:
                    argument(in(a, 0, 4));
                    return new int[] {s.at, s.hand, s.steps, s.swaps, s.passed}[a];
                case 14:
                    place(in(a, 0, 15));
                    argument(b >= 0);
                    String plan = s.plans()[a];
                    return plan == null || b >= plan.length() ? -1 : plan.charAt(b) - '0';
                case 15:
                    argument(in(a, 0, 6));
                    return count(s.plans(), a);
                case 16:
                    argument(in(a, 0, 4));
                    return s.refusal(a);
                case 17:
                    place(in(a, 0, 14));
                    argument(in(b, 0, 5));
                    s.locks[a] = b;
                    return s.reach();
                case 18:
                    place(in(a, 0, 15));
                    s.keys[a] = 0;
                    return s.reach();
                case 19:
                    return bestFold(s);
                case 20:
                    return Double.doubleToLongBits(s.reach() / 16.0);
                default:
                    return digest(s);
            }
        }

        long cell(String[] plans, int a, int what) {
            switch (what) {
                case 0:
                    return state.keys[a];
                case 1:
                    return a == 15 ? 0 : state.locks[a];
                case 2:
                    return state.told[a] ? 1 : 0;
                case 3:
                    return a / state.length;
                case 4:
                    return state.below(a);
                case 5:
                    return state.above(a);
                default:
                    return plans[a] == null ? -1 : plans[a].length();
            }
        }

        long count(String[] plans, int what) {
            int[] n = {state.keysInAll(), 0, 0, 0, 0, state.length, saved.size()};
            for (int cell = 0; cell < 16; cell++) {
                n[1] += cell < 15 && state.locks[cell] != 0 ? 1 : 0;
                for (int high = 0; high < 16; high++) {
                    n[2] += state.over(cell, high) ? 1 : 0;
                }
                n[3] += plans[cell] == null ? 0 : 1;
                n[4] = Math.max(n[4], plans[cell] == null ? 0 : plans[cell].length());
            }
            return n[what];
        }

        int bestFold(State s) {
            int best = 0;
            long bestRank = Long.MIN_VALUE;
            for (int length = 2; length <= 8; length++) {
                s.length = length;
                long rank = 0;
                for (String plan : s.plans()) {
                    rank += plan == null ? 0 : 1000000 - plan.length();
                }
                if (rank > bestRank) {
                    bestRank = rank;
                    best = length;
                }
            }
            return best;
        }

        long digest(State s) {
            String[] plans = s.plans();
            long h = 3319;
            for (int what = 0; what <= 6; what++) {
                h = 31 * h + count(plans, what);
            }
            for (int what = 0; what <= 4; what++) {
                h = 31 * h + look(13, what, 0);
            }
            for (int cell = 0; cell < 16; cell++) {
                for (int what = 0; what <= 6; what++) {
                    h = 31 * h + cell(plans, cell, what);
                }
            }
            for (int step = 0; step <= 4; step++) {
                h = 31 * h + s.refusal(step);
            }
            for (char step : (plans[15] == null ? "" : plans[15]).toCharArray()) {
                h = 31 * h + (step - '0');
            }
            h = 31 * h + look(18, 0, 0);
            h = 31 * h + look(17, 7, 3);
            h = 31 * h + look(20, 0, 0);
            h = 31 * h + buffer.length();
            for (char sign : buffer.toCharArray()) {
                h = 31 * h + sign;
            }
            return h;
        }
    }

    private static long call(FoldedKeys x, int which, int a, int b) {
        switch (which) {
            case 0: return x.door(a, b);
            case 1: return x.key(a, b);
            case 2: return x.ladder(a, b % 2 != 0);
            case 3: return x.fold(a);
            case 4: return x.stand(a);
            case 5: return x.step(a);
            case 6: return x.walk(a);
            case 7: return x.append(a);
            case 8: return x.clearBuffer();
            case 9: return x.firstError();
            case 10: return x.corridor();
            case 11: return x.undo();
            case 12: return x.cell(a, b);
            case 13: return x.walker(a);
            case 14: return x.plan(a, b);
            case 15: return x.count(a);
            case 16: return x.refusal(a);
            case 17: return x.ifDoor(a, b);
            case 18: return x.without(a);
            case 19: return x.bestFold();
            case 20: return Double.doubleToLongBits(x.reached());
            default: return x.digest();
        }
    }

    private static final String[] NAMES = {"door", "key", "ladder", "fold", "stand", "step", "walk",
        "append", "clearBuffer", "firstError", "corridor", "undo", "cell", "walker", "plan", "count",
        "refusal", "ifDoor", "without", "bestFold", "reached", "digest"};

    private static void both(int run, FoldedKeys x, Model model, int which, int a, int b) {
        asked++;
        String got;
        String want;
        try {
            got = "" + call(x, which, a, b);
        } catch (RuntimeException e) {
            got = e.getClass().getSimpleName();
        }
        try {
            want = "" + model.call(which, a, b);
        } catch (RuntimeException e) {
            want = e.getClass().getSimpleName();
        }
        if (!got.equals(want)) {
            wrong++;
            System.out.println("run " + run + ": " + NAMES[which] + "(" + a + ", " + b + ") answered "
                    + got + ", due is " + want);
        }
    }

    private static long seed = 1;

    private static int below(int n) {
        seed = seed * 6364136223846793005L + 1442695040888963407L;
        return (int) ((seed >>> 33) % n);
    }

    private static int number(int low, int high) {
        int dice = below(40);
        if (dice == 0) {
            return low - 1;
        }
        if (dice == 1) {
            return high + 1;
        }
        return low + below(high - low + 1);
    }

    private static String text(int digits) {
        StringBuilder b = new StringBuilder();
        int placed = 0;
        for (int cell = 0; cell < 16; cell++) {
            if (placed < digits && below(6) == 0) {
                b.append(1 + below(2));
                placed++;
            } else {
                b.append('.');
            }
            b.append(below(6) == 0 ? "|" : "");
            if (cell < 15 && below(5) == 0) {
                b.append((char) ('a' + below(2)));
            }
        }
        return b.toString();
    }

    private static int append(int run, FoldedKeys x, Model model, String text) {
        for (char sign : text.toCharArray()) {
            both(run, x, model, 7, sign, 0);
        }
        return text.length();
    }

    /** A text, mostly right, then read and made. */
    private static int typeText(int run, FoldedKeys x, Model model) {
        both(run, x, model, 8, 0, 0);
        String text = text(below(6) == 0 ? 3 : 2);
        if (below(3) == 0) {
            int at = below(text.length());
            String signs = ".135|ae06f";
            int sign = below(signs.length());
            text = text.substring(0, at) + signs.substring(sign, sign + 1) + text.substring(at + below(2));
        }
        int calls = append(run, x, model, text);
        both(run, x, model, 9, 0, 0);
        both(run, x, model, 10, 0, 0);
        return calls + 3;
    }

    private static final int[] OFTEN = {0, 1, 2, 3, 4, 5, 5, 5, 5, 5, 6, 6, 7, 9, 10, 11, 12, 13, 14, 15,
        16, 17, 18, 19, 20, 21};

    private static void chosen(int run, FoldedKeys x, Model model) {
        int which = OFTEN[below(OFTEN.length)];
        int a = number(0, 15);
        int b = number(0, 5);
        if (which == 3) {
            a = number(2, 8);
        } else if (which == 5 || which == 13 || which == 16) {
            a = number(0, 4);
        } else if (which == 7) {
            a = number(33, 126);
        } else if (which == 12) {
            b = number(0, 6);
        } else if (which == 14) {
            b = number(0, 12);
        } else if (which == 15) {
            a = number(0, 6);
        } else if (which == 1 || which == 0 || which == 17) {
            b = below(12) == 0 ? number(0, 5) : below(3);
        }
        both(run, x, model, which, a, b);
    }

    private static void run(int run) {
        FoldedKeys x = new FoldedKeys();
        Model model = new Model();
        int calls = 0;
        if (run % 4 != 0) {
            calls += typeText(run, x, model);
        }
        while (calls < 200) {
            if (below(60) == 0) {
                calls += typeText(run, x, model);
            } else if (below(20) == 0) {
                for (int cell = 0; cell < 16; cell++) {
                    both(run, x, model, 12, cell, 6);
                }
                calls += 16;
            } else {
                chosen(run, x, model);
                calls++;
            }
        }
        both(run, x, model, 21, 0, 0);
    }

    public static void main(String[] args) {
        int runs = args.length > 0 ? Integer.parseInt(args[0]) : 60;
        for (int run = 1; run <= runs; run++) {
            seed = run * 7919L;
            run(run);
        }
        System.out.println(asked + " asked, " + wrong + " wrong");
        if (wrong != 0) {
            System.exit(1);
        }
    }
}
