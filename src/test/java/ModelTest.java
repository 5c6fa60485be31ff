/**
 * Runs of calls, all promises mixed, each answer held against the model's. The calls come from
 * a counter that is stirred, so that every run is the same again.
 */
public final class ModelTest {
    private static final int RUNS = 600, CALLS = 512;
    private static final Checks c = new Checks();

    private final FolderRows x = new FolderRows();
    private final Model y = new Model();
    private final StringBuilder told = new StringBuilder();
    private long seed;

    private ModelTest(long seed) {
        this.seed = seed * 7919;
    }

    public static void main(String[] args) {
        c.promise(0, "all promises, by the model");
        for (int run = 0; run < RUNS && c.isClean(); run++) {
            new ModelTest(run).run(run);
        }
        c.end();
    }

    private void run(int run) {
        int wild = run % 4 == 0 ? 8 : 60;
        int calls = run % 3 == 0 ? 140 : CALLS;
        ask("machines", 1 + pick(4));
        ask("rules", pick(4));
        if (run % 5 != 0) {
            for (int m = 0; m < 4; m++) {
                ask("room", m, pick(200));
            }
        }
        for (int i = 0; i < calls && c.isClean(); i++) {
            step(wild);
        }
        if (!c.isClean()) {
            System.out.println("run " + run + ":\n" + told);
        }
    }

    private int pick(int n) {
        seed = seed * 6364136223846793005L + 1442695040888963407L;
        return (int) ((seed >>> 33) % n);
    }

    /** A number below n as a rule; now and then one at an edge or far off. */
    private int some(int n, int wild) {
        if (pick(wild) != 0) {
            return pick(n);
        }
        int[] odd = {-1, n, n + 1, -2, Integer.MAX_VALUE, Integer.MIN_VALUE};
        return odd[pick(odd.length)];
    }

    private int machine(int wild) {
        return some(x.count(0), wild);
    }

    /** Low numbers more often, as those are the ones that are there. */
    private int thing(int wild) {
        return pick(3) == 0 ? some(12, wild) : some(5, wild);
    }

    private int day(int wild) {
        return pick(2) == 0 ? x.count(2) : some(x.count(2) + 1, wild);
    }

    private long row() {
        long row = 0;
        for (int i = 0; i < 8; i++) {
            row = (row << 8) | (pick(3) == 0 ? pick(256) : 1 + pick(4));
        }
        return row;
    }

    private void step(int w) {
        switch (pick(34)) {
            case 0, 1, 2 -> ask("make", machine(w), some(2, w) + 1, thing(w), some(3, w));
            case 3, 4, 5, 6 -> ask("move", machine(w), thing(w), thing(w), some(3, w));
            case 7 -> ask("gone", machine(w), thing(w));
            case 8, 9, 10 -> ask("write", machine(w), thing(w), row(), some(9, w));
            case 11, 12 -> ask("send", machine(w), machine(w));
            case 13 -> ask("sendSome", machine(w), machine(w), some(6, w));
            case 14 -> ask("change", machine(w), some(20, w), some(6, w));
            case 15 -> ask("thing", machine(w), thing(w), day(w), some(4, w));
            case 16 -> ask("bytes", machine(w), thing(w), some(3, w), some(9, w) - 1);
            case 17 -> ask("bulk", some(6, w), machine(w), thing(w));
            case 18 -> ask("things", machine(w), day(w));
            case 19 -> ask("find", machine(w), thing(w), some(23, w));
            case 20 -> ask("sum", machine(w), day(w));
            case 21 -> ask("differ", machine(w), machine(w));
            case 22 -> ask("apart", machine(w), some(21, w));
            case 23 -> ask("let", machine(w));
            case 24 -> ask("taken", machine(w));
            case 25 -> ask("pieces", machine(w), some(3, w), thing(w));
            case 26 -> ask("fetch", machine(w), thing(w));
            case 27 -> ask("away", machine(w), thing(w));
            case 28 -> ask("could", some(3, w), machine(w), thing(w), day(w));
            case 29 -> ask("odd", machine(w), day(w), some(2, w));
            case 30 -> ask("count", some(6, w));
            default -> seldom(w);
        }
    }

    private void seldom(int w) {
        switch (pick(12)) {
            case 0 -> ask("night");
            case 1, 2 -> ask("share", some(3, w), thing(w));
            case 3 -> ask("take", some(6, w));
            case 4 -> ask("rules", some(4, w));
            case 5 -> ask("room", machine(w), some(60, w));
            case 6 -> ask("trace");
            case 7 -> wholeTree(machine(99));
            case 8 -> {
                if (pick(20) == 0) {
                    ask("machines", some(4, w) + 1);
                }
            }
            default -> ask("sum", machine(w), day(w));
        }
    }

    private void wholeTree(int machine) {
        int day = day(99);
        for (int t = 0; t < 12; t++) {
            for (int what = 0; what < 4; what++) {
                ask("thing", machine, t, day, what);
            }
        }
    }

    private void ask(String call, long... a) {
        told.append(call).append(java.util.Arrays.toString(a)).append('\n');
        c.due(call + java.util.Arrays.toString(a), real(call, a), model(call, a));
    }

    private static int i(long[] a, int place) {
        return (int) a[place];
    }

    private long real(String call, long[] a) {
        return switch (call) {
            case "machines" -> x.machines(i(a, 0));
            case "rules" -> x.rules(i(a, 0));
            case "make" -> x.make(i(a, 0), i(a, 1), i(a, 2), i(a, 3));
            case "move" -> x.move(i(a, 0), i(a, 1), i(a, 2), i(a, 3));
            case "gone" -> x.gone(i(a, 0), i(a, 1));
            case "write" -> x.write(i(a, 0), i(a, 1), a[2], i(a, 3));
            case "send" -> x.send(i(a, 0), i(a, 1));
            case "sendSome" -> x.sendSome(i(a, 0), i(a, 1), i(a, 2));
            case "change" -> x.change(i(a, 0), i(a, 1), i(a, 2));
            case "thing" -> x.thing(i(a, 0), i(a, 1), i(a, 2), i(a, 3));
            case "bytes" -> x.bytes(i(a, 0), i(a, 1), i(a, 2), i(a, 3));
            case "bulk" -> x.bulk(i(a, 0), i(a, 1), i(a, 2));
            case "things" -> x.things(i(a, 0), i(a, 1));
            case "find" -> x.find(i(a, 0), i(a, 1), i(a, 2));
            case "sum" -> x.sum(i(a, 0), i(a, 1));
            case "differ" -> x.differ(i(a, 0), i(a, 1));
            case "apart" -> x.apart(i(a, 0), i(a, 1));
            case "let" -> x.let(i(a, 0));
            case "taken" -> x.taken(i(a, 0));
            case "room" -> x.room(i(a, 0), i(a, 1));
            case "pieces" -> x.pieces(i(a, 0), i(a, 1), i(a, 2));
            case "fetch" -> x.fetch(i(a, 0), i(a, 1));
            case "away" -> x.away(i(a, 0), i(a, 1));
            case "night" -> x.night();
            case "share" -> x.share(i(a, 0), i(a, 1));
            case "take" -> x.take(i(a, 0));
            case "could" -> x.could(i(a, 0), i(a, 1), i(a, 2), i(a, 3));
            case "odd" -> x.odd(i(a, 0), i(a, 1), i(a, 2));
            case "count" -> x.count(i(a, 0));
            case "trace" -> x.trace();
            default -> throw new IllegalArgumentException(call);
        };
    }

    private long model(String call, long[] a) {
        return switch (call) {
            case "machines" -> y.machines(i(a, 0));
            case "rules" -> y.rules(i(a, 0));
            case "make" -> y.make(i(a, 0), i(a, 1), i(a, 2), i(a, 3));
            case "move" -> y.move(i(a, 0), i(a, 1), i(a, 2), i(a, 3));
            case "gone" -> y.gone(i(a, 0), i(a, 1));
            case "write" -> y.write(i(a, 0), i(a, 1), a[2], i(a, 3));
            case "send" -> y.send(i(a, 0), i(a, 1));
            case "sendSome" -> y.sendSome(i(a, 0), i(a, 1), i(a, 2));
            case "change" -> y.change(i(a, 0), i(a, 1), i(a, 2));
            case "thing" -> y.thing(i(a, 0), i(a, 1), i(a, 2), i(a, 3));
            case "bytes" -> y.bytes(i(a, 0), i(a, 1), i(a, 2), i(a, 3));
            case "bulk" -> y.bulk(i(a, 0), i(a, 1), i(a, 2));
            case "things" -> y.things(i(a, 0), i(a, 1));
            case "find" -> y.find(i(a, 0), i(a, 1), i(a, 2));
            case "sum" -> y.sum(i(a, 0), i(a, 1));
            case "differ" -> y.differ(i(a, 0), i(a, 1));
            case "apart" -> y.apart(i(a, 0), i(a, 1));
            case "let" -> y.let(i(a, 0));
            case "taken" -> y.taken(i(a, 0));
            case "room" -> y.room(i(a, 0), i(a, 1));
            case "pieces" -> y.pieces(i(a, 0), i(a, 1), i(a, 2));
            case "fetch" -> y.fetch(i(a, 0), i(a, 1));
            case "away" -> y.away(i(a, 0), i(a, 1));
            case "night" -> y.night();
            case "share" -> y.share(i(a, 0), i(a, 1));
            case "take" -> y.take(i(a, 0));
            case "could" -> y.could(i(a, 0), i(a, 1), i(a, 2), i(a, 3));
            case "odd" -> y.odd(i(a, 0), i(a, 1), i(a, 2));
            case "count" -> y.count(i(a, 0));
            case "trace" -> y.trace();
            default -> throw new IllegalArgumentException(call);
        };
    }
}
