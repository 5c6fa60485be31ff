import java.util.Arrays;
import java.util.function.Supplier;

/**
 * Every number that a call takes, at both of its ends: the last that is as told is not BAD, the
 * next one and those far off are, and then nothing changes.
 */
public final class BoundsTest {
    private static final int BAD = FolderRows.BAD;
    private static final int MOST_MACHINES = 4, TODAY = 2;
    private static final Checks c = new Checks();

    interface Call {
        long with(FolderRows x, int... a);
    }

    public static void main(String[] args) {
        c.runAll(BoundsTest.class);
        c.end();
    }

    /** Machines with something of each kind, on day 2: folder 1, file 2 in it, folder 3. */
    private static FolderRows state(int machines) {
        FolderRows x = new FolderRows();
        x.machines(machines);
        x.make(0, 2, 0, 1);
        x.make(0, 1, 1, 2);
        x.write(0, 2, 0x0103, 2);
        for (int m = 1; m < machines; m++) {
            x.send(0, m);
        }
        x.night();
        x.share(3, 1);
        for (int m = 0; m < machines; m++) {
            x.make(m, 2, 0, 4);
            x.write(m, 2, 0x0507 + m, 2);
        }
        x.share(4, 2);
        x.take(1);
        x.night();
        return x;
    }

    /** Holds each place of a call to its two ends; the other places keep numbers that are fine. */
    private static void ends(String call, Supplier<FolderRows> state, Call asked, int[] fine, int[] low, int[] high) {
        for (int place = 0; place < fine.length; place++) {
            int[] beyond = {low[place] - 1, high[place] + 1, Integer.MIN_VALUE, Integer.MAX_VALUE};
            FolderRows x = state.get();
            for (int number : beyond) {
                int[] a = fine.clone();
                a[place] = number;
                c.refused(x, call + Arrays.toString(a), () -> asked.with(x, a), BAD);
            }
            for (int number : new int[] {low[place], high[place]}) {
                int[] a = fine.clone();
                a[place] = number;
                c.holds(call + Arrays.toString(a) + " is not BAD", asked.with(state.get(), a) != BAD);
            }
        }
    }

    /** The same for each number of machines; the first place is the machine. */
    private static void endsOfMachines(String call, Call asked, int[] fine, int[] low, int[] high) {
        for (int n = 1; n <= MOST_MACHINES; n++) {
            int machines = n;
            int[] most = high.clone();
            most[0] = n - 1;
            ends(call + " of " + n, () -> state(machines), asked, fine, low, most);
        }
    }

    private static int[] row(int... numbers) {
        return numbers;
    }

    static void promise01_machines0And1AreThereAndNoOther() {
        ends("things", FolderRows::new, (x, a) -> x.things(a[0], 0), row(0), row(0), row(1));
    }

    static void promise02_machines1To4() {
        ends("machines", () -> state(2), (x, a) -> x.machines(a[0]), row(2), row(1), row(4));
    }

    static void promise03_bits0To3() {
        ends("rules", () -> state(2), (x, a) -> x.rules(a[0]), row(1), row(0), row(3));
    }

    static void promise04_machineKind1To2Folder0To11Name0To9() {
        endsOfMachines("make", (x, a) -> x.make(a[0], a[1], a[2], a[3]),
            row(0, 1, 0, 3), row(0, 1, 0, 0), row(0, 2, 11, 9));
    }

    static void promise05_machineThing0To11Folder0To11Name0To9() {
        endsOfMachines("move", (x, a) -> x.move(a[0], a[1], a[2], a[3]),
            row(0, 2, 3, 3), row(0, 0, 0, 0), row(0, 11, 11, 9));
    }

    static void promise06_machineThing0To11() {
        endsOfMachines("gone", (x, a) -> x.gone(a[0], a[1]), row(0, 2), row(0, 0), row(0, 11));
    }

    static void promise07_machineThing0To11Bytes0To8() {
        endsOfMachines("write", (x, a) -> x.write(a[0], a[1], 0x0102030405060708L, a[2]),
            row(0, 2, 2), row(0, 0, 0), row(0, 11, 8));
    }

    // The other machine lies between the two ends, so that it is never the same one.
    static void promise08_bothMachines() {
        ends("send from", () -> state(3), (x, a) -> x.send(a[0], 1), row(0), row(0), row(2));
        ends("send to", () -> state(3), (x, a) -> x.send(1, a[0]), row(0), row(0), row(2));
        ends("send of 4 from", () -> state(4), (x, a) -> x.send(a[0], 1), row(0), row(0), row(3));
        ends("send of 4 to", () -> state(4), (x, a) -> x.send(1, a[0]), row(0), row(0), row(3));
    }

    static void promise09_bothMachinesAnd1To20Changes() {
        ends("sendSome from", () -> state(3), (x, a) -> x.sendSome(a[0], 1, a[1]), row(0, 1), row(0, 1), row(2, 20));
        ends("sendSome to", () -> state(3), (x, a) -> x.sendSome(1, a[0], a[1]), row(0, 1), row(0, 1), row(2, 20));
    }

    static void promise10_machineItsChangesWhat0To5() {
        ends("change of the first", () -> state(2), (x, a) -> x.change(a[0], a[1], a[2]),
            row(0, 1, 1), row(0, 0, 0), row(1, 4, 5));
        ends("change of the other", () -> state(2), (x, a) -> x.change(1, a[0], a[1]),
            row(1, 1), row(0, 0), row(1, 5));
        endsOfMachines("change", (x, a) -> x.change(a[0], a[1], a[2]), row(0, 1, 1), row(0, 0, 0), row(0, 4, 5));
    }

    static void promise11_machineThing0To11Day0ToTodayWhat0To3() {
        endsOfMachines("thing", (x, a) -> x.thing(a[0], a[1], a[2], a[3]),
            row(0, 2, 1, 0), row(0, 0, 0, 0), row(0, 11, TODAY, 3));
    }

    static void promise12_machineThing0To11() {
        endsOfMachines("bytes", (x, a) -> x.bytes(a[0], a[1], 0, -1), row(0, 2), row(0, 0), row(0, 11));
    }

    static void promise12_rowsThatItHoldsAndTheirBytes() {
        ends("bytes", () -> {
            FolderRows x = state(2);
            x.send(1, 0);
            return x;
        }, (x, a) -> x.bytes(0, 2, a[0], a[1]), row(1, 1), row(0, -1), row(1, 1));
    }

    static void promise13_kind0To5MachineThing0To11() {
        endsOfMachines("bulk", (x, a) -> x.bulk(a[1], a[0], a[2]), row(0, 2, 2), row(0, 0, 0), row(0, 5, 11));
    }

    static void promise14_machineDay0ToToday() {
        endsOfMachines("things", (x, a) -> x.things(a[0], a[1]), row(0, 1), row(0, 0), row(0, TODAY));
    }

    static void promise15_machineFolder0To11Name0To22() {
        endsOfMachines("find", (x, a) -> x.find(a[0], a[1], a[2]), row(0, 1, 2), row(0, 0, 0), row(0, 11, 22));
    }

    static void promise16_machineDay0ToToday() {
        endsOfMachines("sum", (x, a) -> x.sum(a[0], a[1]), row(0, 1), row(0, 0), row(0, TODAY));
    }

    static void promise17_bothMachines() {
        endsOfMachines("differ a", (x, a) -> x.differ(a[0], 0), row(0), row(0), row(0));
        endsOfMachines("differ b", (x, a) -> x.differ(0, a[0]), row(0), row(0), row(0));
    }

    static void promise18_machineFrom0To20() {
        endsOfMachines("apart", (x, a) -> x.apart(a[0], a[1]), row(0, 3), row(0, 0), row(0, 20));
    }

    static void promise19_machine() {
        endsOfMachines("let", (x, a) -> x.let(a[0]), row(0), row(0), row(0));
    }

    static void promise20_machine() {
        endsOfMachines("taken", (x, a) -> x.taken(a[0]), row(0), row(0), row(0));
    }

    static void promise21_machineRoom0To200() {
        endsOfMachines("room", (x, a) -> x.room(a[0], a[1]), row(0, 20), row(0, 0), row(0, 200));
    }

    static void promise22_machineWhat0To2ThingOf2Alone() {
        endsOfMachines("pieces", (x, a) -> x.pieces(a[0], a[1], 2), row(0, 1), row(0, 0), row(0, 2));
        ends("pieces that it lacks", () -> state(2), (x, a) -> x.pieces(0, 2, a[0]), row(2), row(0), row(11));
        FolderRows x = state(2);
        for (int thing : new int[] {-1, 12, Integer.MIN_VALUE, Integer.MAX_VALUE}) {
            c.due("pieces(0, 0, " + thing + ")", x.pieces(0, 0, thing), 2);
            c.due("pieces(0, 1, " + thing + ")", x.pieces(0, 1, thing), 4);
        }
    }

    static void promise23_machineThing0To11() {
        endsOfMachines("fetch", (x, a) -> x.fetch(a[0], a[1]), row(0, 2), row(0, 0), row(0, 11));
    }

    static void promise24_machineThing0To11() {
        endsOfMachines("away", (x, a) -> x.away(a[0], a[1]), row(0, 2), row(0, 0), row(0, 11));
    }

    static void promise26_person0To7Thing0To11() {
        ends("share", () -> state(2), (x, a) -> x.share(a[0], a[1]), row(1, 1), row(0, 0), row(7, 11));
    }

    static void promise27_sharesThatWereMade() {
        ends("take", () -> state(2), (x, a) -> x.take(a[0]), row(0), row(0), row(1));
    }

    static void promise28_person0To7MachineThing0To11Day0ToToday() {
        endsOfMachines("could", (x, a) -> x.could(a[1], a[0], a[2], a[3]),
            row(0, 3, 1, 1), row(0, 0, 0, 0), row(0, 7, 11, TODAY));
    }

    static void promise29_machineDay0ToTodayWhat0To1() {
        endsOfMachines("odd", (x, a) -> x.odd(a[0], a[1], a[2]), row(0, 1, 1), row(0, 0, 0), row(0, TODAY, 1));
    }

    static void promise30_what0To5() {
        ends("count", () -> state(2), (x, a) -> x.count(a[0]), row(0), row(0), row(5));
    }
}
