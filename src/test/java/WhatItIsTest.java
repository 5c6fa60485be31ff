import java.util.ArrayList;
import java.util.List;

/**
 * The document's section "What it is", part by part, as what must hold behind any run of calls.
 * Unlike ModelTest it needs no second telling of the rules: it holds the class against itself.
 * As Snapshot does, it asks more than 512 calls of an object; the class counts none.
 */
public final class WhatItIsTest {
    private static final int FILE = 1, FOLDER = 2, CLASH = 5;
    private static final int STATE = FolderRows.STATE, NONE = FolderRows.NONE;
    private static final int MACHINES = 4, THINGS = 12, RUNS = 150, STEPS = 90, MOST_ROOM = 200;
    private static final Checks c = new Checks();
    private static long seed;

    public static void main(String[] args) {
        c.runAll(WhatItIsTest.class);
        c.end();
    }

    private static int pick(int n) {
        seed = seed * 6364136223846793005L + 1442695040888963407L;
        return (int) ((seed >>> 33) % n);
    }

    private static FolderRows machines(int run) {
        seed = 31L * run + 7;
        FolderRows x = new FolderRows();
        x.machines(MACHINES);
        x.rules(run % 4);
        for (int m = 0; m < MACHINES; m++) {
            x.room(m, MOST_ROOM);
        }
        return x;
    }

    /** A change at one of the first machines, or something sent among them; names are often alike. */
    private static void step(FolderRows x, int among) {
        int m = pick(among);
        int to = (m + 1 + pick(among - 1)) % among;
        switch (pick(9)) {
            case 0, 1 -> x.make(m, FILE + pick(2), pick(7), pick(2));
            case 2, 3 -> x.move(m, 1 + pick(6), pick(8), pick(2));
            case 4, 5, 6 -> x.write(m, 1 + pick(6), pick(1 << 16), 1 + pick(2));
            case 7 -> x.sendSome(m, to, 1 + pick(4));
            default -> {
                if (pick(4) == 0) {
                    x.gone(m, 1 + pick(6));
                } else {
                    x.send(m, to);
                }
            }
        }
    }

    private static FolderRows stirred(int run) {
        FolderRows x = machines(run);
        for (int i = 0; i < STEPS; i++) {
            step(x, MACHINES);
        }
        return x;
    }

    /** One change after the other from anyone to anyone, till all know all. */
    private static void trickle(FolderRows x) {
        for (int i = 0; i < 4000 && !allAreSame(x); i++) {
            int from = pick(MACHINES);
            x.sendSome(from, (from + 1 + pick(MACHINES - 1)) % MACHINES, 1 + pick(2));
        }
        c.holds("all know all in the end", allAreSame(x));
    }

    private static boolean allAreSame(FolderRows x) {
        boolean same = true;
        for (int m = 1; m < MACHINES; m++) {
            same = same && x.differ(0, m) == 0;
        }
        return same;
    }

    /** All that a machine's tree tells as of a day. */
    private static String tree(FolderRows x, int m, int day) {
        StringBuilder told = new StringBuilder();
        told.append(x.things(m, day)).append(' ').append(x.sum(m, day));
        for (int t = 0; t < THINGS; t++) {
            for (int what = 0; what < 4; what++) {
                told.append(' ').append(x.thing(m, t, day, what));
            }
        }
        return told.toString();
    }

    private static String bytes(FolderRows x, int m) {
        StringBuilder told = new StringBuilder();
        for (int t = 0; t < THINGS; t++) {
            for (int row = 0; row < MACHINES; row++) {
                for (int what = -1; what < 2; what++) {
                    told.append(' ').append(x.bytes(m, t, row, what));
                }
            }
        }
        return told.toString();
    }

    // ---- the parts

    static void promise16_oneTreeForAllThatHaveTheSameRowsInWhateverOrderTheyCame() {
        int apartOnes = 0;
        for (int run = 0; run < RUNS; run++) {
            FolderRows x = stirred(run);
            trickle(x);
            for (int m = 1; m < MACHINES; m++) {
                c.holds("machine " + m + " has the tree of 0, run " + run, tree(x, m, 0).equals(tree(x, 0, 0)));
                c.holds("machine " + m + " has the bytes of 0, run " + run, bytes(x, m).equals(bytes(x, 0)));
            }
            for (int t = 1; t < THINGS; t++) {
                apartOnes += x.thing(0, t, 0, 0) == CLASH ? 1 : 0;
            }
        }
        c.holds("some files were written apart", apartOnes > RUNS / 10);
    }

    static void promise16_theSameRowsWhetherSentAtOnceOrOneByOne() {
        for (int run = 0; run < RUNS; run++) {
            FolderRows slow = stirred(run);
            FolderRows fast = stirred(run);
            trickle(slow);
            for (int from = 0; from < MACHINES; from++) {
                for (int to = 0; to < MACHINES; to++) {
                    if (from != to) {
                        fast.send(from, to);
                    }
                }
            }
            // The last one has been sent all; it sends it on.
            for (int to = 0; to < MACHINES - 1; to++) {
                fast.send(MACHINES - 1, to);
            }
            c.holds("all know all", allAreSame(fast));
            c.holds("both trees are one, run " + run, tree(slow, 0, 0).equals(tree(fast, 0, 0)));
            c.holds("both have the same bytes, run " + run, bytes(slow, 0).equals(bytes(fast, 0)));
        }
    }

    static void promise05_noFolderComesIntoItself() {
        int deep = 0;
        for (int run = 0; run < RUNS; run++) {
            FolderRows x = stirred(run);
            for (int m = 0; m < MACHINES; m++) {
                for (int t = 1; t < THINGS; t++) {
                    if (x.thing(m, t, 0, 0) != NONE) {
                        deep += wayUp(x, m, t) > 2 ? 1 : 0;
                    }
                }
            }
        }
        c.holds("some lie deep", deep > RUNS / 10);
    }

    /** How many folders lie around a thing; each is there, and the last one is the root. */
    private static int wayUp(FolderRows x, int m, int t) {
        int at = t;
        int ways = 0;
        while (at != 0 && ways < THINGS) {
            at = x.thing(m, at, 0, 1);
            ways++;
            c.due("kind of what " + t + " lies in", x.thing(m, at, 0, 0), FOLDER);
        }
        c.due("the last one around " + t, at, 0);
        return ways;
    }

    static void promise11_noTwoNamesInAFolderAreAlike() {
        int spare = 0;
        for (int run = 0; run < RUNS; run++) {
            FolderRows x = stirred(run);
            for (int m = 0; m < MACHINES; m++) {
                for (int t = 1; t < THINGS; t++) {
                    if (x.thing(m, t, 0, 0) != NONE) {
                        int name = x.thing(m, t, 0, 2);
                        spare += name >= 10 ? 1 : 0;
                        c.due("who has the name of " + t + ", run " + run, x.find(m, x.thing(m, t, 0, 1), name), t);
                    }
                }
            }
        }
        c.holds("some have spare names", spare > RUNS);
    }

    static void promise07_filesWrittenApartStayBoth() {
        for (int run = 0; run < RUNS; run++) {
            FolderRows x = stirred(run);
            trickle(x);
            int file = x.make(0, FILE, 0, 0);
            x.send(0, 1);
            if (file > 0 && x.write(0, file, 65, 1) >= 0 && x.write(1, file, 66, 1) >= 0) {
                x.send(0, 1);
                x.send(1, 0);
                c.due("it is written apart, run " + run, x.thing(0, file, 0, 0), CLASH);
                c.due("both together", x.bytes(0, file, 0, 0) + x.bytes(0, file, 1, 0), 65 + 66);
            }
        }
    }

    static void promise24_neverTheLastOneAway() {
        int went = 0;
        for (int run = 0; run < RUNS; run++) {
            FolderRows x = stirred(run);
            trickle(x);
            for (int i = 0; i < 40; i++) {
                int m = pick(MACHINES);
                went += x.away(m, pick(THINGS)) > 0 ? 1 : 0;
                x.fetch(pick(MACHINES), pick(THINGS));
                holdsAllPieces(x, run);
            }
        }
        c.holds("some went", went > RUNS);
    }

    /** A run writes too few bytes for room to be what refuses here. */
    private static void holdsAllPieces(FolderRows x, int run) {
        int m = pick(MACHINES);
        for (int t = 1; t < THINGS; t++) {
            if (x.pieces(m, 2, t) >= 0) {
                c.holds("what is lacked can be fetched, run " + run, x.fetch(m, t) != STATE);
                c.due("then nothing is lacked, run " + run, x.pieces(m, 2, t), 0);
            }
            c.holds("no more than there is room for", x.pieces(m, 1, 0) <= MOST_ROOM);
        }
    }

    static void promise25_treesAsOfADayStayAsTheyWere() {
        for (int run = 0; run < RUNS; run++) {
            FolderRows x = machines(run);
            List<String> ends = new ArrayList<>();
            for (int day = 0; day < 8; day++) {
                for (int i = 0; i < 8; i++) {
                    step(x, MACHINES);
                }
                for (int m = 0; m < MACHINES; m++) {
                    ends.add(tree(x, m, day));
                }
                x.night();
            }
            for (int i = 0; i < ends.size(); i++) {
                c.holds("machine " + i % MACHINES + " as of day " + i / MACHINES + ", run " + run,
                    ends.get(i).equals(tree(x, i % MACHINES, i / MACHINES)));
            }
        }
    }

    /**
     * Machine 3 is away while the others go on from a change of machine 0 that all of them know:
     * with that one taken back, and what stands on it, they have machine 3's tree.
     */
    static void promise18_takenBackWithWhatStandsOnIt() {
        int wentOn = 0;
        for (int run = 0; run < RUNS; run++) {
            FolderRows x = machines(run);
            for (int i = 0; i < STEPS / 3; i++) {
                step(x, MACHINES);
            }
            trickle(x);
            int first = changesOf(x, 0);
            x.make(0, FOLDER, 0, 0);
            x.send(0, 1);
            x.send(0, 2);
            for (int i = 0; i < STEPS / 2; i++) {
                step(x, MACHINES - 1);
            }
            String now = tree(x, 1, 0);
            wentOn += now.equals(tree(x, 3, 0)) ? 0 : 1;
            c.due("it was not apart", x.apart(0, first), NONE);
            for (int m = 0; m < MACHINES - 1; m++) {
                c.holds("machine " + m + " has the tree of 3, run " + run, tree(x, m, 0).equals(tree(x, 3, 0)));
                c.holds("machine " + m + " has the bytes of 3, run " + run, bytes(x, m).equals(bytes(x, 3)));
                c.due("what is taken of " + m + ", run " + run, x.taken(m), x.differ(m, 3));
            }
            c.due("it was apart", x.let(0), first);
            c.holds("let, all is as it was, run " + run, tree(x, 1, 0).equals(now));
        }
        c.holds("some had gone on", wentOn > RUNS / 2);
    }

    private static int changesOf(FolderRows x, int m) {
        int number = 0;
        while (number < 20 && x.change(m, number, 0) >= 0) {
            number++;
        }
        return number;
    }
}
