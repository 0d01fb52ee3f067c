/** What the tests share; a test is a class that extends this one. */
abstract class Checks {
    static final Class<?> PLACE = IndexOutOfBoundsException.class;
    static final Class<?> ARGUMENT = IllegalArgumentException.class;
    static final Class<?> STATE = IllegalStateException.class;

    static final String BARE = "................";

    private static int wrong = 0;
    private static int asked = 0;

    interface Call {
        void run();
    }

    static void due(String what, long got, long want) {
        dueText(what, "" + got, "" + want);
    }

    static void dueText(String what, String got, String want) {
        asked++;
        if (!got.equals(want)) {
            wrong++;
            System.out.println(what + " answered " + got + ", due is " + want);
        }
    }

    /** The call throws just this class; null, if it must not throw. */
    static void dueThrown(String what, Class<?> want, Call call) {
        Class<?> got = null;
        try {
            call.run();
        } catch (RuntimeException e) {
            got = e.getClass();
        }
        dueText(what + " throws", "" + got, "" + want);
    }

    /** The call throws just this class, and the digest stays. */
    static void refused(String what, FoldedKeys x, Class<?> want, Call call) {
        long before = x.digest();
        dueThrown(what, want, call);
        due(what + " changes nothing", x.digest(), before);
    }

    static void type(FoldedKeys x, String text) {
        x.clearBuffer();
        for (int index = 0; index < text.length(); index++) {
            x.append(text.charAt(index));
        }
    }

    /** The corridor that begins with this text; the rest are bare cells. */
    static FoldedKeys made(String text) {
        FoldedKeys x = new FoldedKeys();
        int cells = text.replaceAll("[^.1-5]", "").length();
        type(x, text + BARE.substring(cells));
        x.corridor();
        return x;
    }

    static String planTo(FoldedKeys x, int cell) {
        StringBuilder steps = new StringBuilder();
        for (int step = x.plan(cell, 0); step != FoldedKeys.NONE; step = x.plan(cell, steps.length())) {
            steps.append(step);
        }
        return steps.toString();
    }

    static void duePlan(String what, FoldedKeys x, int cell, String want) {
        dueText(what + ": the plan to " + cell, planTo(x, cell), want);
        due(what + ": its length", x.cell(cell, 6), want.length());
    }

    static void dueNoPlan(String what, FoldedKeys x, int cell) {
        due(what + ": no steps to " + cell, x.cell(cell, 6), -1);
        due(what + ": no step to " + cell, x.plan(cell, 0), -1);
        refused(what + ": no walk to " + cell, x, STATE, () -> x.walk(cell));
    }

    /** The last call of a main method: tells what was wrong, and ends so. */
    static void tell() {
        System.out.println(asked + " asked, " + wrong + " wrong");
        if (wrong != 0) {
            System.exit(1);
        }
    }
}
