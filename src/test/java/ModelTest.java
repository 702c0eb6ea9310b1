/** All promises: runs of up to 512 calls, the same ones in every run of this test, answered by the program and by PlainModel. */
public final class ModelTest {
    private static final int RUNS = 400, CALLS = 512;

    /** What one step may call at most: it may write a text of seven orders, of two offers each, and look at its fault. */
    private static final int CALLS_OF_A_STEP = 24;
    private static final int METHODS = 24;

    /** How often the methods are called, of the 24 in the order of the face. */
    private static final int[] WEIGHTS = {30, 40, 25, 8, 60, 40, 60, 15, 40, 60, 80, 60, 50, 50, 40, 15, 3, 60, 8, 15, 40, 30, 12, 12};

    private long seed;
    private final ShadowRows object = new ShadowRows();
    private int calls = 0;
    private final PlainModel model = new PlainModel();
    private final int span;
    private final int mostRows;
    private final int highRight;
    private final int strayEvery;
    private String text = "";

    private ModelTest(int run) {
        seed = 7919L * run + 1;
        span = new int[] {8, 20, 60, 201}[run % 4];
        mostRows = run % 19 == 0 ? 6 : 2 + run % 4;
        highRight = new int[] {30, 90, 1000}[run % 3];
        strayEvery = run % 7 == 0 ? 4 : 25;
    }

    public static void main(String[] args) {
        for (int run = 0; run < RUNS; run++) {
            new ModelTest(run).run(run);
        }
        Due.end();
    }

    private void run(int run) {
        for (int step = 0; calls <= CALLS - CALLS_OF_A_STEP; step++) {
            int before = calls;
            if (!one(run, step)) {
                return;
            }
            Due.isTrue("a step takes up to " + CALLS_OF_A_STEP + " calls", calls - before <= CALLS_OF_A_STEP);
        }
    }

    /** The object, for one call: after 512 of them its answers are free. */
    private ShadowRows x() {
        calls++;
        return object;
    }

    private int below(int bound) {
        seed = seed * 6364136223846793005L + 1442695040888963407L;
        return (int) ((seed >>> 33) % bound);
    }

    /** A number from least to most, now and then one outside. */
    private int some(int least, int most) {
        if (below(strayEvery) == 0) {
            int[] strays = {least - 1, most + 1, -1, Integer.MIN_VALUE, Integer.MAX_VALUE, 9, 10, -6};
            return strays[below(strays.length)];
        }
        return least + below(Math.max(1, most - least + 1));
    }

    private int someRow() {
        return some(0, Math.max(0, model.count(0) - 1));
    }

    private int method() {
        int all = 0;
        for (int weight : WEIGHTS) {
            all += weight;
        }
        int at = below(all);
        int method = 0;
        while (at >= WEIGHTS[method]) {
            at -= WEIGHTS[method];
            method++;
        }
        return method;
    }

    private boolean one(int run, int step) {
        int method = step < 3 ? 0 : method();
        if (method == 0 && model.count(0) >= mostRows && below(4) != 0) {
            method = 4;
        }
        int[] a = new int[5];
        long[] answers = method < 5 ? change(method, a) : method < 9 ? trade(method, a) : method < 17 ? ask(method, a) : rest(method, a);
        StringBuilder name = new StringBuilder("run " + run + ", step " + step + ", method " + method + " of the face (");
        for (int argument : a) {
            name.append(' ').append(argument);
        }
        if (answers[0] == answers[1] && method < METHODS) {
            Due.is("", 0, 0);
            return true;
        }
        Due.is(name.append(" ), text ").append(text).toString(), answers[0], answers[1]);
        return false;
    }

    private static long[] both(long got, long due) {
        return new long[] {got, due};
    }

    private long[] change(int method, int[] a) {
        switch (method) {
            case 0:
                a[0] = below(strayEvery) == 0 ? some(0, 200) : below(span);
                a[1] = some(1, 20);
                a[2] = some(0, 4);
                return both(x().row(a[0], a[1], a[2]), model.row(a[0], a[1], a[2]));
            case 1:
                a[0] = someRow();
                a[1] = some(0, 4);
                return both(x().tilt(a[0], a[1]), model.tilt(a[0], a[1]));
            case 2:
                a[0] = some(0, 9);
                a[1] = some(0, below(3) == 0 ? 9 : 6);
                return both(x().wind(a[0], a[1]), model.wind(a[0], a[1]));
            case 3:
                a[0] = some(below(3) == 0 ? 1 : 6, 10);
                return both(x().stow(a[0]), model.stow(a[0]));
            default:
                a[0] = someRow();
                a[1] = someRow();
                a[2] = some(0, 9);
                a[3] = some(0, highRight - 1);
                return both(x().grant(a[0], a[1], a[2], a[3]), model.grant(a[0], a[1], a[2], a[3]));
        }
    }

    /** Few sellers, hours and prices, so that many offers meet. */
    private long[] trade(int method, int[] a) {
        switch (method) {
            case 5:
                a[0] = below(2) == 0 ? 0 : someRow();
                a[1] = some(3, 4);
                a[2] = some(1, below(3) == 0 ? 200 : 12);
                a[3] = some(0, below(3) == 0 ? 999 : 6);
                return both(x().ask(a[0], a[1], a[2], a[3]), model.ask(a[0], a[1], a[2], a[3]));
            case 6:
                a[0] = someRow();
                a[1] = below(2) == 0 ? 0 : someRow();
                a[2] = some(3, 4);
                a[3] = some(1, below(3) == 0 ? 200 : 12);
                a[4] = some(0, below(3) == 0 ? 999 : 6);
                return both(x().bid(a[0], a[1], a[2], a[3], a[4]), model.bid(a[0], a[1], a[2], a[3], a[4]));
            case 7:
                a[0] = some(0, 1);
                a[1] = some(0, 9);
                return both(x().takeBack(a[0], a[1]), model.takeBack(a[0], a[1]));
            default:
                return both(x().match(), model.match());
        }
    }

    private long[] ask(int method, int[] a) {
        a[0] = someRow();
        switch (method) {
            case 9:
                a[1] = some(0, 8);
                return both(x().ofRow(a[0], a[1]), model.ofRow(a[0], a[1]));
            case 10:
                a[1] = some(0, 9);
                a[2] = some(0, 4);
                return both(x().inHour(a[0], a[1], a[2]), model.inHour(a[0], a[1], a[2]));
            case 11:
                a[1] = someRow();
                a[2] = some(0, 9);
                a[3] = some(0, 2);
                return both(x().over(a[0], a[1], a[2], a[3]), model.over(a[0], a[1], a[2], a[3]));
            case 12:
                a[0] = some(0, 1);
                a[1] = some(0, 9);
                a[2] = some(0, 4);
                return both(x().offer(a[0], a[1], a[2]), model.offer(a[0], a[1], a[2]));
            case 13:
                a[0] = some(0, below(2) == 0 ? 7 : 19);
                return both(x().count(a[0]), model.count(a[0]));
            case 14:
                a[1] = someRow();
                a[2] = some(0, 9);
                a[3] = some(0, highRight - 1);
                a[4] = some(0, 2);
                return both(x().worth(a[0], a[1], a[2], a[3], a[4]), model.worth(a[0], a[1], a[2], a[3], a[4]));
            case 15:
                a[1] = some(0, 1);
                return both(x().bestTilt(a[0], a[1]), model.bestTilt(a[0], a[1]));
            default:
                return bestTilts();
        }
    }

    private long[] bestTilts() {
        for (int what = -1; what < 11; what++) {
            int got = x().bestTilts(what);
            int due = model.bestTilts(what);
            if (got != due) {
                return both(got, due);
            }
        }
        return both(0, 0);
    }

    private long[] rest(int method, int[] a) {
        switch (method) {
            case 17:
                return put();
            case 18:
                return both(x().wipe(), model.wipe());
            case 19:
                return both(x().fault(), model.fault());
            case 20:
                return carryOut();
            case 21:
                return both(x().undo(), model.undo());
            case 22:
                a[0] = some(0, 1);
                return both(x().save(a[0]), model.save(a[0]));
            default:
                a[0] = some(0, 1);
                return both(x().restore(a[0]), model.restore(a[0]));
        }
    }

    private long[] put() {
        if (below(4) == 0) {
            return putNumber(seed >>> below(64));
        }
        StringBuilder some = new StringBuilder();
        String signs = "twabm0123456789=@*:>;";
        for (int i = below(8); i >= 0; i--) {
            some.append(signs.charAt(below(signs.length())));
        }
        return putNumber(Text.number(some.toString()));
    }

    private long[] putNumber(long number) {
        text = Long.toString(number);
        return both(x().put(number), model.put(number));
    }

    /** Mostly writes orders first, one sign of which may be another. */
    private long[] carryOut() {
        if (below(4) != 0) {
            x().wipe();
            model.wipe();
            writeOrders();
        }
        if (x().fault() != model.fault()) {
            return both(x().fault(), model.fault());
        }
        return both(x().carryOut(), model.carryOut());
    }

    private void writeOrders() {
        StringBuilder all = new StringBuilder(order());
        for (int i = below(6); i > 0; i--) {
            all.append(';').append(order());
        }
        if (below(3) == 0) {
            all.setCharAt(below(all.length()), (char) (33 + below(94)));
        }
        if (below(6) == 0) {
            all.setLength(below(all.length()));
        }
        text = all.toString();
        for (int from = 0; from < all.length(); from += 8) {
            long part = Text.number(all.substring(from, Math.min(all.length(), from + 8)));
            x().put(part);
            model.put(part);
        }
    }

    private String order() {
        String tail = "@" + below(10) + "*" + below(below(4) == 0 ? 1000 : 99) + ":" + below(below(4) == 0 ? 1000 : 9);
        int row = below(below(5) == 0 ? 6 : Math.max(1, model.count(0)));
        switch (below(6)) {
            case 0: return "t" + row + "=" + below(5);
            case 1: return "w" + below(10) + "=" + below(10);
            case 2: return "a" + row + tail;
            case 3: return "b" + below(Math.max(1, model.count(0))) + ">" + row + tail;
            case 4: return "a0@4*5:1;b1>0@4*7:2";
            default: return "m";
        }
    }
}
