/** Promises 25 to 31: nights, shares, odd days, counts and the trace. */
public final class DaysTest {
    private static final int BAD = FolderRows.BAD, STATE = FolderRows.STATE, FULL = FolderRows.FULL;
    private static final Checks c = new Checks();

    public static void main(String[] args) {
        night();
        share();
        take();
        could();
        couldByTree();
        odd();
        oddLimits();
        oddByCounting();
        count();
        trace();
        c.end();
    }

    private static void night() {
        c.promise(25, "night");
        FolderRows x = new FolderRows();
        for (int d = 1; d <= 29; d++) {
            c.due("night " + d, x.night(), d);
            x.make(0, 1, 0, d % 10);
        }
        c.due("beyond 29", x.night(), STATE);
        c.due("it stays 29", x.count(2), 29);
        for (int d = 0; d <= 11; d++) {
            c.due("things on day " + d, x.things(0, d), d + 1);
        }
        c.due("day 29", x.things(0, 29), 12);
        c.due("day 30", x.things(0, 30), BAD);
        c.due("day 28 at 1", x.things(1, 28), 1);
        x.send(0, 1);
        c.due("day 28 at 1 stays as it was", x.things(1, 28), 1);
        c.due("day 29 at 1", x.things(1, 29), 12);
        x.machines(2);
        c.due("again", x.night(), 1);
        c.due("of day 1 nothing is kept", x.things(0, 1), 1);
    }

    private static void share() {
        c.promise(26, "share");
        FolderRows x = new FolderRows();
        c.due("person -1", x.share(-1, 0), BAD);
        c.due("person 8", x.share(8, 0), BAD);
        c.due("thing -1", x.share(0, -1), BAD);
        c.due("thing 12", x.share(0, 12), BAD);
        c.due("what is not there yet", x.share(7, 11), 0);
        for (int s = 1; s < 20; s++) {
            c.due("share " + s, x.share(0, 0), s);
        }
        c.due("more than 20", x.share(0, 0), FULL);
        c.due("BAD first", x.share(8, 0), BAD);
        x.take(3);
        c.due("those taken back count too", x.share(0, 0), FULL);
        c.due("19 hold", x.count(3), 19);
    }

    private static void take() {
        c.promise(27, "take");
        FolderRows x = new FolderRows();
        c.due("none yet", x.take(0), BAD);
        x.night();
        x.share(1, 0);
        x.night();
        x.share(1, 0);
        c.due("share -1", x.take(-1), BAD);
        c.due("share 2", x.take(2), BAD);
        c.due("take(1)", x.take(1), 2);
        c.due("take(0)", x.take(0), 1);
        c.due("again", x.take(0), STATE);
        c.due("none holds", x.count(3), 0);
    }

    private static void could() {
        c.promise(28, "could");
        FolderRows x = new FolderRows();
        x.make(0, 1, 0, 0);
        x.night();
        x.share(4, 1);
        x.night();
        x.night();
        c.due("person -1", x.could(-1, 0, 1, 0), BAD);
        c.due("person 8", x.could(8, 0, 1, 0), BAD);
        c.due("machine 2", x.could(4, 2, 1, 0), BAD);
        c.due("thing 12", x.could(4, 0, 12, 0), BAD);
        c.due("thing -1", x.could(4, 0, -1, 0), BAD);
        c.due("day 4", x.could(4, 0, 1, 4), BAD);
        c.due("day -1", x.could(4, 0, 1, -1), BAD);
        c.due("not there", x.could(4, 1, 1, 0), STATE);
        c.due("ahead of it", x.could(4, 0, 1, 0), 0);
        c.due("on the day it began", x.could(4, 0, 1, 1), 1);
        c.due("now", x.could(4, 0, 1, 3), 1);
        c.due("another person", x.could(3, 0, 1, 1), 0);
        c.due("not the folder around it", x.could(4, 0, 0, 1), 0);
        x.take(0);
        c.due("the day it was taken back", x.could(4, 0, 1, 3), 0);
        c.due("the day ahead of that", x.could(4, 0, 1, 2), 1);
        x.night();
        c.due("later", x.could(4, 0, 1, 4), 0);
        x.share(4, 1);
        c.due("shared anew", x.could(4, 0, 1, 4), 1);
        c.due("not between", x.could(4, 0, 1, 3), 0);
        x.take(1);
        c.due("begun and taken on one day", x.could(4, 0, 1, 4), 0);
        x.share(4, 0);
        x.share(4, 0);
        x.machines(2);
        c.due("no share is left by machines", x.could(4, 0, 0, 0), 0);
    }

    private static void couldByTree() {
        c.promise(28, "could, by the tree of that day");
        FolderRows x = new FolderRows();
        x.make(0, 2, 0, 0);
        x.make(0, 2, 1, 0);
        x.make(0, 1, 2, 0);
        x.send(0, 1);
        x.share(0, 1);
        x.share(1, 0);
        c.due("over two", x.could(0, 0, 3, 0), 1);
        c.due("the folder itself", x.could(0, 0, 1, 0), 1);
        c.due("the root not", x.could(0, 0, 0, 0), 0);
        c.due("all by the root", x.could(1, 0, 3, 0), 1);
        c.due("the root itself", x.could(1, 0, 0, 0), 1);
        x.night();
        x.move(0, 2, 0, 5);
        c.due("moved out", x.could(0, 0, 3, 1), 0);
        c.due("the other machine does not know", x.could(0, 1, 3, 1), 1);
        c.due("the day ahead", x.could(0, 0, 3, 0), 1);
        x.apart(0, 3);
        c.due("the move left out", x.could(0, 0, 3, 1), 1);
        x.apart(0, 0);
        c.due("all left out", x.could(0, 0, 3, 0), STATE);
    }

    private static void odd() {
        c.promise(29, "odd");
        FolderRows x = new FolderRows();
        c.due("machine 2", x.odd(2, 0, 0), BAD);
        c.due("machine -1", x.odd(-1, 0, 0), BAD);
        c.due("day 1", x.odd(0, 1, 0), BAD);
        c.due("day -1", x.odd(0, -1, 0), BAD);
        c.due("what 2", x.odd(0, 0, 2), BAD);
        c.due("what -1", x.odd(0, 0, -1), BAD);
        c.due("one way of none", x.odd(0, 0, 0), 1);
        x.make(0, 1, 0, 0);
        x.make(0, 1, 0, 0);
        c.due("one day", x.odd(0, 0, 0), 1);
        c.due("one day in all", x.odd(0, 0, 1), 1);
        x.night();
        c.due("2 of 2", x.odd(0, 0, 0), 1);
        c.due("0 of 2", x.odd(0, 1, 0), 4);
        c.due("2^2", x.odd(0, 1, 1), 4);
        x.make(0, 1, 0, 0);
        c.due("2 of 3", x.odd(0, 0, 0), 4);
        c.due("1 of 3", x.odd(0, 1, 0), 7);
        x.send(0, 1);
        c.due("those that are sent do not count", x.odd(1, 0, 1), 1);
        x.apart(0, 0);
        c.due("left out ones do", x.odd(0, 1, 0), 7);
    }

    private static void oddLimits() {
        c.promise(29, "odd: its limits");
        FolderRows x = new FolderRows();
        x.make(0, 1, 0, 0);
        for (int i = 1; i < 12; i++) {
            x.move(0, 1, 0, 0);
        }
        for (int d = 1; d < 8; d++) {
            x.night();
        }
        c.due("8^12", x.odd(0, 0, 1), 68719476736L);
        c.due("12 or more of 12", x.odd(0, 0, 0), 1);
        c.due("0 or more of 12", x.odd(0, 7, 0), 68719476736L);
        x.move(0, 1, 0, 0);
        c.due("13 changes", x.odd(0, 0, 0), STATE);
        c.due("13 changes, all", x.odd(0, 0, 1), STATE);
        c.due("BAD first", x.odd(0, 8, 0), BAD);
        c.due("the other machine has none", x.odd(1, 0, 1), 1);
        x.night();
        c.due("9 days", x.odd(1, 0, 1), STATE);
    }

    private static void oddByCounting() {
        c.promise(29, "odd, by counting all deals");
        FolderRows x = new FolderRows();
        int[] made = {3, 0, 2, 1};
        x.make(0, 1, 0, 0);
        made[0]--;
        for (int d = 0; d < made.length; d++) {
            for (int i = 0; i < made[d]; i++) {
                x.move(0, 1, 0, 0);
            }
            if (d < made.length - 1) {
                x.night();
            }
        }
        made[0]++;
        for (int d = 0; d < made.length; d++) {
            c.due("ways of day " + d, x.odd(0, d, 0), deals(6, made.length, made[d]));
        }
    }

    /** Deals n changes to days one way after the other, and counts those with k or more on day 0. */
    private static long deals(int n, int days, int k) {
        if (n == 0) {
            return k <= 0 ? 1 : 0;
        }
        long ways = 0;
        for (int d = 0; d < days; d++) {
            ways += deals(n - 1, days, d == 0 ? k - 1 : k);
        }
        return ways;
    }

    private static void count() {
        c.promise(30, "count");
        FolderRows x = new FolderRows();
        c.due("what -1", x.count(-1), BAD);
        c.due("what 6", x.count(6), BAD);
        x.machines(3);
        x.rules(2);
        x.make(0, 1, 0, 0);
        x.make(1, 1, 0, 0);
        x.send(1, 2);
        x.make(2, 1, 0, 0);
        x.night();
        x.share(0, 0);
        x.share(0, 0);
        x.take(0);
        x.apart(1, 0);
        c.due("machines", x.count(0), 3);
        c.due("changes", x.count(1), 3);
        c.due("day", x.count(2), 1);
        c.due("shares that hold", x.count(3), 1);
        c.due("rules", x.count(4), 2);
        c.due("left out", x.count(5), 2);
    }

    private static void trace() {
        c.promise(31, "trace");
        FolderRows x = new FolderRows();
        int[] comes = {1, 11, 101, 1001, 10011, 100011};
        long due = 0;
        for (int kind = 0; kind < comes.length; kind++) {
            x.bulk(kind, 0, 0);
            due += comes[kind];
            c.due("after kind " + kind, x.trace(), due);
        }
        x.bulk(6, 0, 0);
        x.bulk(0, 0, 1);
        c.due("refused ones do not come", x.trace(), due);
        x.sum(0, 0);
        x.thing(0, 0, 0, 2);
        c.due("nor do other calls", x.trace(), due);
        c.due("it is of each object", new FolderRows().trace(), 0);
    }
}
