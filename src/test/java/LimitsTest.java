/**
 * Cases at the limits that are not refused: empty and full, first and last, the most and the
 * least, halves that are rounded, days on which something begins or ends.
 */
public final class LimitsTest {
    private static final int BAD = FolderRows.BAD, STATE = FolderRows.STATE, FULL = FolderRows.FULL, NONE = FolderRows.NONE;
    private static final int FILE = 1, FOLDER = 2, CLASH = 5;
    private static final int COMES_BACK = 1, EARLIEST = 2;
    private static final int CHANGES = 20, THINGS = 12, MACHINES = 4, LAST_DAY = 29;
    private static final Checks c = new Checks();

    public static void main(String[] args) {
        c.runAll(LimitsTest.class);
        c.end();
    }

    private static FolderRows machines(int n) {
        FolderRows x = new FolderRows();
        x.machines(n);
        return x;
    }

    private static void sendToAll(FolderRows x, int from) {
        for (int m = 0; m < x.count(0); m++) {
            if (m != from) {
                x.send(from, m);
            }
        }
    }

    private static void allKnowAll(FolderRows x) {
        for (int m = 1; m < x.count(0); m++) {
            x.send(m, 0);
        }
        sendToAll(x, 0);
    }

    /** So many machines that all know file 1, in the root by name 0. */
    private static FolderRows oneFile(int n) {
        FolderRows x = machines(n);
        x.make(0, FILE, 0, 0);
        sendToAll(x, 0);
        return x;
    }

    private static void nights(FolderRows x, int n) {
        for (int i = 0; i < n; i++) {
            x.night();
        }
    }

    // ---- 1 a new object

    static void promise01_twoMachinesAndTheRoot() {
        FolderRows x = new FolderRows();
        c.due("machines", x.count(0), 2);
        for (int m = 0; m < 2; m++) {
            c.due("things", x.things(m, 0), 1);
            c.due("sum", x.sum(m, 0), 1);
            c.due("kind of the root", x.thing(m, 0, 0, 0), FOLDER);
            c.due("folder of the root", x.thing(m, 0, 0, 1), NONE);
            c.due("name of the root", x.thing(m, 0, 0, 2), 0);
            c.due("ways of the root", x.thing(m, 0, 0, 3), 0);
            c.due("pieces", x.pieces(m, 0, 0), 0);
            c.due("room", x.room(m, 20), 20);
            c.due("taken", x.taken(m), 0);
            c.due("apart", x.apart(m, 20), NONE);
        }
    }

    static void promise01_nothingElseAtFirst() {
        FolderRows x = new FolderRows();
        c.due("changes", x.count(1), 0);
        c.due("day", x.count(2), 0);
        c.due("shares", x.count(3), 0);
        c.due("rules", x.count(4), 0);
        c.due("left out", x.count(5), 0);
        c.due("trace", x.trace(), 0);
        c.due("differ", x.differ(0, 1), 0);
    }

    static void promise01_objectsHaveNothingOfOneAnother() {
        FolderRows y = new FolderRows();
        String before = Snapshot.of(y);
        FolderRows x = new FolderRows();
        x.machines(3);
        x.rules(3);
        x.make(0, FILE, 0, 0);
        x.write(0, 1, 5, 1);
        x.night();
        x.share(0, 0);
        x.bulk(5, 0, 1);
        c.holds("the other one is as it was", before.equals(Snapshot.of(y)));
        c.holds("a new one is as that was", before.equals(Snapshot.of(new FolderRows())));
    }

    // ---- 2 machines

    /** Four machines, each with changes, pieces, room of its own; shares, days, all apart. */
    private static FolderRows used() {
        FolderRows x = oneFile(4);
        x.rules(3);
        for (int m = 0; m < 4; m++) {
            x.room(m, 100 + m);
            x.write(m, 1, 4 * m + 3, 1);
            x.night();
            x.share(m, 0);
        }
        allKnowAll(x);
        for (int m = 0; m < 4; m++) {
            x.apart(m, m);
        }
        return x;
    }

    static void promise02_afterItAllIsAsNewButForRulesAndMachines() {
        for (int n = 1; n <= MACHINES; n++) {
            FolderRows x = used();
            c.due("machines(" + n + ")", x.machines(n), 4);
            FolderRows y = new FolderRows();
            y.rules(3);
            y.machines(n);
            c.holds("it is as new, of " + n, Snapshot.of(x).equals(Snapshot.of(y)));
        }
    }

    static void promise02_nothingComesBackWithMachinesThatComeBack() {
        FolderRows x = used();
        c.due("one", x.machines(1), 4);
        c.due("four", x.machines(4), 1);
        for (int m = 0; m < 4; m++) {
            c.due("changes", x.change(m, 0, 0), BAD);
            c.due("pieces", x.pieces(m, 0, 0), 0);
            c.due("room", x.room(m, 20), 20);
            c.due("apart", x.let(m), STATE);
            c.due("things", x.things(m, 0), 1);
        }
        c.due("left out", x.count(5), 0);
    }

    static void promise02_howManyThereWereAndTheSameAgain() {
        FolderRows x = new FolderRows();
        c.due("first", x.machines(2), 2);
        c.due("second", x.machines(1), 2);
        c.due("third", x.machines(1), 1);
        c.due("fourth", x.machines(4), 1);
        c.due("fifth", x.machines(3), 4);
    }

    static void promise02_nothingIsKeptOfDays() {
        FolderRows x = new FolderRows();
        x.night();
        x.make(0, FILE, 0, 0);
        nights(x, LAST_DAY - 1);
        x.machines(2);
        c.due("day", x.count(2), 0);
        c.due("day 1 is not yet", x.things(0, 1), BAD);
        for (int day = 1; day <= LAST_DAY; day++) {
            c.due("night", x.night(), day);
            c.due("things on day " + day, x.things(0, day), 1);
        }
    }

    static void promise02_rulesStayAndShareNumbersBeginAnew() {
        FolderRows x = used();
        x.machines(2);
        c.due("rules", x.count(4), 3);
        c.due("share", x.share(0, 0), 0);
        c.due("thing", x.make(0, FILE, 0, 0), 1);
        c.due("change", x.move(0, 1, 0, 1), 1);
        c.due("height", x.change(0, 1, 2), 2);
        c.due("its day", x.change(0, 1, 4), 0);
    }

    // ---- 3 rules

    static void promise03_whatTheyWere() {
        FolderRows x = new FolderRows();
        int before = 0;
        for (int bits : new int[] {0, 1, 2, 3, 3, 0, 2, 1, 0}) {
            c.due("rules(" + bits + ")", x.rules(bits), before);
            c.due("count(4)", x.count(4), bits);
            before = bits;
        }
    }

    static void promise03_eachBitAloneForAllMachinesAndDays() {
        FolderRows x = oneFile(2);
        x.make(0, FILE, 0, 0);
        x.gone(0, 1);
        x.write(1, 1, 5, 1);
        x.write(1, 1, 5, 1);
        x.write(1, 1, 5, 1);
        allKnowAll(x);
        x.night();
        int[] kindOf1 = {NONE, FILE, NONE, FILE};
        int[] nameOf2 = {0, 0, 0, 10};
        for (int bits = 0; bits <= 3; bits++) {
            x.rules(bits);
            for (int m = 0; m < 2; m++) {
                for (int day = 0; day < 2; day++) {
                    c.due("kind of 1 by rules " + bits, x.thing(m, 1, day, 0), kindOf1[bits]);
                    c.due("name of 2 by rules " + bits, x.thing(m, 2, day, 2), nameOf2[bits]);
                }
            }
        }
    }

    // ---- 4 make

    static void promise04_theLeastNumberThatNoNewHas() {
        FolderRows x = machines(3);
        c.due("1 at 0", x.make(0, FOLDER, 0, 0), 1);
        c.due("2 at 0", x.make(0, FILE, 0, 0), 2);
        c.due("1 at 1", x.make(1, FILE, 0, 0), 1);
        x.send(0, 1);
        c.due("3 at 1: 1 and 2 are known", x.make(1, FILE, 0, 0), 3);
        x.send(1, 2);
        c.due("4 at 2", x.make(2, FILE, 0, 0), 4);
        c.due("3 at 0, which knows 1 and 2", x.make(0, FILE, 0, 0), 3);
        x.gone(0, 3);
        c.due("4 at 0: gone ones count", x.make(0, FILE, 0, 0), 4);
        x.apart(0, 0);
        c.due("5 at 0: left out ones count", x.make(0, FILE, 0, 0), 5);
    }

    static void promise04_theFirstNewInTheOrderTells() {
        FolderRows x = new FolderRows();
        x.make(1, FOLDER, 0, 8);
        x.make(0, FILE, 0, 7);
        allKnowAll(x);
        for (int m = 0; m < 2; m++) {
            c.due("kind", x.thing(m, 1, 0, 0), FILE);
            c.due("name", x.thing(m, 1, 0, 2), 7);
            c.due("one thing", x.things(m, 0), 2);
        }
        x.apart(0, 0);
        c.due("the first that is not left out", x.thing(1, 1, 0, 0), FOLDER);
        c.due("its name", x.thing(1, 1, 0, 2), 8);
    }

    static void promise04_aLaterNewOfWhatIsGoneDoesNothing() {
        FolderRows x = new FolderRows();
        x.make(0, FILE, 0, 7);
        x.gone(0, 1);
        x.make(1, FILE, 0, 8);
        x.move(1, 1, 0, 8);
        x.send(0, 1);
        c.due("it stays gone", x.thing(1, 1, 0, 0), NONE);
    }

    static void promise04_inAFolderThatIsThereElseInTheRoot() {
        FolderRows x = new FolderRows();
        x.make(0, FOLDER, 0, 0);
        x.make(0, FOLDER, 1, 0);
        x.send(0, 1);
        x.gone(0, 2);
        x.make(1, FILE, 2, 9);
        x.make(1, FILE, 1, 9);
        x.send(0, 1);
        c.due("its folder is gone: the root", x.thing(1, 3, 0, 1), 0);
        c.due("its name is as told", x.thing(1, 3, 0, 2), 9);
        c.due("its folder is there", x.thing(1, 4, 0, 1), 1);
        FolderRows y = new FolderRows();
        y.make(0, FILE, 0, 0);
        y.make(1, FOLDER, 0, 0);
        y.make(1, FILE, 1, 4);
        y.send(0, 1);
        c.due("its folder is a file after all: the root", y.thing(1, 2, 0, 1), 0);
        c.due("by its name", y.thing(1, 2, 0, 2), 4);
    }

    static void promise04_namesFrom0To9AndWithoutRows() {
        FolderRows x = new FolderRows();
        for (int name = 0; name <= 9; name++) {
            int thing = x.make(0, 1 + name % 2, 0, name);
            c.due("name", x.thing(0, thing, 0, 2), name);
            c.due("ways", x.thing(0, thing, 0, 3), 0);
            c.due("kind", x.thing(0, thing, 0, 0), 1 + name % 2);
            c.due("find", x.find(0, 0, name), thing);
        }
    }

    // ---- 5 move, in trees

    static void promise05_nothingHappensIfTheThingIsNotThere() {
        FolderRows x = oneFile(2);
        x.gone(0, 1);
        x.move(1, 1, 0, 5);
        x.send(0, 1);
        c.due("gone", x.thing(1, 1, 0, 0), NONE);
        x.rules(COMES_BACK);
        x.apart(0, 1);
        c.due("the gone left out", x.thing(1, 1, 0, 2), 5);
    }

    static void promise05_nothingHappensIfTheFolderIsNotThere() {
        FolderRows x = new FolderRows();
        x.make(0, FOLDER, 0, 1);
        x.make(0, FILE, 0, 2);
        x.send(0, 1);
        x.gone(0, 1);
        x.move(1, 2, 1, 5);
        x.send(0, 1);
        c.due("its folder", x.thing(1, 2, 0, 1), 0);
        c.due("its name", x.thing(1, 2, 0, 2), 2);
    }

    static void promise05_nothingHappensIfTheFolderIsAFileAfterAll() {
        FolderRows x = new FolderRows();
        x.make(0, FILE, 0, 0);
        x.make(1, FOLDER, 0, 0);
        x.make(1, FILE, 0, 1);
        x.move(1, 2, 1, 5);
        x.send(0, 1);
        c.due("its folder", x.thing(1, 2, 0, 1), 0);
        c.due("its name", x.thing(1, 2, 0, 2), 1);
    }

    static void promise05_nothingHappensIfTheFolderLiesInItOverAnyMany() {
        FolderRows x = new FolderRows();
        for (int t = 1; t <= 9; t++) {
            x.make(0, FOLDER, t == 1 ? 0 : t - 1, 0);
        }
        x.make(0, FOLDER, 0, 7);
        x.send(0, 1);
        x.move(0, 10, 9, 3);
        x.move(1, 1, 10, 4);
        allKnowAll(x);
        c.due("the first of the order has happened", x.thing(0, 10, 0, 1), 9);
        c.due("the other would come into itself over nine", x.thing(0, 1, 0, 1), 0);
        c.due("and keeps its name", x.thing(0, 1, 0, 2), 0);
        c.due("the same at 1", x.sum(1, 0), x.sum(0, 0));
    }

    static void promise05_twoFoldersIntoEachOther() {
        FolderRows x = new FolderRows();
        x.make(0, FOLDER, 0, 1);
        x.make(0, FOLDER, 0, 2);
        x.send(0, 1);
        x.move(1, 1, 2, 3);
        x.move(0, 2, 1, 4);
        allKnowAll(x);
        c.due("of the same height machine 0 is first", x.thing(1, 2, 0, 1), 1);
        c.due("the other does nothing", x.thing(1, 1, 0, 1), 0);
        x.apart(0, 2);
        c.due("but it does when that is left out", x.thing(1, 1, 0, 1), 2);
    }

    // ---- 6 gone, in trees

    static void promise06_allThatLiesInItOverAnyMany() {
        FolderRows x = new FolderRows();
        for (int t = 1; t < THINGS; t++) {
            x.make(0, t == 11 ? FILE : FOLDER, t - 1, 0);
        }
        c.due("all twelve", x.things(0, 0), 12);
        x.gone(0, 2);
        c.due("two are left", x.things(0, 0), 2);
        c.due("the innermost", x.thing(0, 11, 0, 0), NONE);
        c.due("the one around it", x.thing(0, 1, 0, 0), FOLDER);
    }

    static void promise06_aGoneOfWhatIsGoneDoesNothing() {
        FolderRows x = oneFile(2);
        x.gone(0, 1);
        c.due("apart", x.gone(1, 1), 0);
        allKnowAll(x);
        c.due("things", x.things(0, 0), 1);
        c.due("it is a change all the same", x.count(1), 3);
    }

    static void promise06_whatIsMovedOutAheadOfItStays() {
        FolderRows x = new FolderRows();
        x.make(0, FOLDER, 0, 0);
        x.make(0, FILE, 1, 1);
        x.make(0, FILE, 1, 2);
        x.send(0, 1);
        x.move(0, 2, 0, 1);
        x.gone(1, 1);
        allKnowAll(x);
        c.due("moved out by the first of the order", x.thing(1, 2, 0, 0), FILE);
        c.due("what lies in it still", x.thing(1, 3, 0, 0), NONE);
    }

    static void promise06_aMoveOutBehindItComesTooLate() {
        FolderRows x = new FolderRows();
        x.make(0, FOLDER, 0, 0);
        x.make(0, FILE, 1, 1);
        x.send(0, 1);
        x.gone(0, 1);
        x.move(1, 2, 0, 1);
        allKnowAll(x);
        c.due("it is gone", x.thing(1, 2, 0, 0), NONE);
        c.due("the root alone", x.things(0, 0), 1);
    }

    // ---- 7 write

    static void promise07_theHighestOfThemFirst() {
        FolderRows x = oneFile(1);
        x.room(0, 200);
        for (int n = 0; n <= 8; n++) {
            c.due("write of " + n, x.write(0, 1, 0xF1F2F3F4F5F6F8F9L, n), 1 + n);
            c.due("length", x.bytes(0, 1, 0, -1), n);
            int[] low = {0xF9, 0xF8, 0xF6, 0xF5, 0xF4, 0xF3, 0xF2, 0xF1};
            for (int i = 0; i < n; i++) {
                c.due("byte " + i + " of " + n, x.bytes(0, 1, 0, i), low[n - 1 - i]);
            }
            c.due("one behind", x.bytes(0, 1, 0, n), BAD);
        }
    }

    static void promise07_numbersFarOff() {
        FolderRows x = oneFile(1);
        x.write(0, 1, -1L, 8);
        c.due("eight times 255 is one piece", x.pieces(0, 0, 0), 1);
        c.due("the first", x.bytes(0, 1, 0, 0), 255);
        c.due("the last", x.bytes(0, 1, 0, 7), 255);
        x.write(0, 1, Long.MIN_VALUE, 8);
        c.due("128", x.bytes(0, 1, 0, 0), 128);
        c.due("and zeros", x.bytes(0, 1, 0, 7), 0);
        x.write(0, 1, Long.MAX_VALUE, 8);
        c.due("127", x.bytes(0, 1, 0, 0), 127);
        x.write(0, 1, Long.MIN_VALUE, 1);
        c.due("the lowest byte alone", x.bytes(0, 1, 0, 0), 0);
    }

    static void promise07_aRowOfNoBytesIsARow() {
        FolderRows x = oneFile(2);
        c.due("none yet", x.thing(0, 1, 0, 3), 0);
        x.write(0, 1, 5, 0);
        c.due("one way", x.thing(0, 1, 0, 3), 1);
        c.due("a FILE", x.thing(0, 1, 0, 0), FILE);
        x.write(1, 1, 5, 0);
        x.send(1, 0);
        c.due("two empty rows written apart", x.thing(0, 1, 0, 0), CLASH);
        c.due("two ways", x.thing(0, 1, 0, 3), 2);
    }

    static void promise07_inPlaceOfThoseInItsGroundBesideThoseThatAreNot() {
        FolderRows x = oneFile(4);
        for (int m = 0; m < 4; m++) {
            x.write(m, 1, 10 + m, 1);
        }
        for (int m = 1; m < 4; m++) {
            x.send(m, 0);
            c.due("ways", x.thing(0, 1, 0, 3), m + 1);
        }
        for (int r = 0; r < 4; r++) {
            c.due("row " + r, x.bytes(0, 1, r, 0), 10 + r);
        }
        c.due("no fifth", x.bytes(0, 1, 4, -1), BAD);
        x.send(1, 2);
        x.write(2, 1, 20, 1);
        x.send(2, 0);
        c.due("in place of two", x.thing(0, 1, 0, 3), 3);
        c.due("machine 0 first", x.bytes(0, 1, 0, 0), 10);
        c.due("then 3", x.bytes(0, 1, 1, 0), 13);
        c.due("the higher one last", x.bytes(0, 1, 2, 0), 20);
        x.write(0, 1, 30, 1);
        c.due("in place of all", x.thing(0, 1, 0, 3), 1);
    }

    static void promise07_ofWhatIsGoneNothingButByRule1() {
        FolderRows x = new FolderRows();
        x.make(0, FOLDER, 0, 1);
        x.make(0, FILE, 1, 2);
        x.write(0, 2, 5, 1);
        x.send(0, 1);
        x.gone(0, 2);
        x.write(1, 2, 6, 1);
        allKnowAll(x);
        c.due("nothing", x.thing(1, 2, 0, 0), NONE);
        x.rules(COMES_BACK);
        c.due("into the folder where it was", x.thing(1, 2, 0, 1), 1);
        c.due("by its name", x.thing(1, 2, 0, 2), 2);
        c.due("in place of the row in its ground", x.thing(1, 2, 0, 3), 1);
        c.due("by the new one", x.bytes(1, 2, 0, 0), 6);
        x.move(0, 1, 0, 9);
        c.due("its folder may have another name", x.thing(0, 2, 0, 1), 1);
    }

    static void promise07_byRule1WithTheRowsThatItHeld() {
        FolderRows x = oneFile(2);
        x.write(0, 1, 5, 1);
        x.gone(0, 1);
        x.write(1, 1, 6, 1);
        x.write(1, 1, 7, 1);
        x.rules(COMES_BACK);
        allKnowAll(x);
        c.due("two ways", x.thing(0, 1, 0, 3), 2);
        c.due("the one held", x.bytes(0, 1, 0, 0), 5);
        c.due("the one beside it", x.bytes(0, 1, 1, 0), 7);
    }

    static void promise07_byRule1IntoTheRootIfItsFolderIsNotThere() {
        FolderRows x = new FolderRows();
        x.make(0, FOLDER, 0, 1);
        x.make(0, FOLDER, 1, 1);
        x.make(0, FILE, 2, 4);
        x.send(0, 1);
        x.gone(0, 2);
        x.write(1, 3, 6, 1);
        x.rules(COMES_BACK);
        allKnowAll(x);
        c.due("the root, not the folder around", x.thing(0, 3, 0, 1), 0);
        c.due("by its name", x.thing(0, 3, 0, 2), 4);
        c.due("its folder does not come back", x.thing(0, 2, 0, 0), NONE);
        c.due("a gone behind it", x.gone(0, 3), 4);
        c.due("takes it again", x.thing(0, 3, 0, 0), NONE);
    }

    static void promise07_ofWhatIsNoFileOrWasNotMadeNothing() {
        FolderRows x = new FolderRows();
        x.make(0, FOLDER, 0, 0);
        x.make(1, FILE, 0, 0);
        x.write(1, 1, 5, 1);
        x.rules(COMES_BACK);
        x.send(0, 1);
        c.due("a folder", x.thing(1, 1, 0, 0), FOLDER);
        c.due("without rows", x.thing(1, 1, 0, 3), 0);
        x.gone(0, 1);
        x.move(1, 1, 0, 1);
        x.write(1, 1, 5, 1);
        x.send(0, 1);
        c.due("a folder does not come back", x.thing(1, 1, 0, 0), NONE);
        x.apart(1, 0);
        x.apart(0, 0);
        c.due("none was made", x.things(1, 0), 1);
    }

    // ---- 8, 9 send

    static void promise08_noneAndAllThatItDoesNotKnow() {
        FolderRows x = machines(4);
        c.due("nothing is known", x.send(0, 1), 0);
        for (int m = 0; m < 4; m++) {
            x.make(m, FILE, 0, 0);
            for (int i = 1; i < CHANGES; i++) {
                x.move(m, 1, 0, 1);
            }
        }
        c.due("20", x.send(0, 1), 20);
        c.due("with those of others", x.send(1, 2), 40);
        c.due("all three", x.send(2, 3), 60);
        c.due("none left", x.send(0, 3), 0);
        c.due("the other way 60", x.send(3, 0), 60);
        c.due("again", x.send(3, 0), 0);
        c.due("what it had stays", x.differ(0, 3), 0);
    }

    static void promise09_asManyAsKNoMore() {
        FolderRows x = machines(3);
        for (int m = 0; m < 2; m++) {
            x.make(m, FILE, 0, 0);
            for (int i = 1; i < CHANGES; i++) {
                x.move(m, 1, 0, i % 10);
            }
        }
        x.send(1, 0);
        c.due("one", x.sendSome(0, 2, 1), 1);
        c.due("20 of 39", x.sendSome(0, 2, 20), 20);
        c.due("19 are left", x.differ(0, 2), 19);
        c.due("fewer than k", x.sendSome(0, 2, 20), 19);
        c.due("none", x.sendSome(0, 2, 1), 0);
    }

    static void promise09_theFirstInTheOrder() {
        FolderRows x = machines(3);
        x.make(1, FILE, 0, 1);
        x.make(1, FILE, 0, 2);
        x.make(0, FILE, 0, 3);
        x.make(0, FILE, 0, 4);
        x.send(1, 0);
        int[] differFrom0 = {3, 2, 1, 0};
        int[] differFrom1 = {3, 2, 3, 2};
        for (int i = 0; i < 4; i++) {
            x.sendSome(0, 2, 1);
            c.due("from 0", x.differ(2, 0), differFrom0[i]);
            c.due("by height, then by machine", x.differ(2, 1), differFrom1[i]);
        }
    }

    static void promise09_groundComesFirst() {
        FolderRows x = machines(3);
        x.make(1, FILE, 0, 1);
        x.send(1, 0);
        x.make(0, FILE, 0, 2);
        c.due("one", x.sendSome(0, 2, 1), 1);
        c.due("the ground of the other", x.thing(2, 1, 0, 0), FILE);
        c.due("not that one", x.thing(2, 2, 0, 0), NONE);
        c.due("then that one", x.sendSome(0, 2, 1), 1);
        c.due("it is there", x.thing(2, 2, 0, 0), FILE);
    }

    // ---- 10 change

    static void promise10_whatItIsFrom0To3AndItsThing() {
        FolderRows x = new FolderRows();
        x.make(0, FOLDER, 0, 0);
        x.make(0, FILE, 1, 0);
        x.move(0, 2, 0, 0);
        x.write(0, 2, 5, 0);
        x.gone(0, 1);
        int[][] due = {{0, 1}, {0, 2}, {1, 2}, {3, 2}, {2, 1}};
        for (int i = 0; i < due.length; i++) {
            c.due("what " + i + " is", x.change(0, i, 0), due[i][0]);
            c.due("the thing of " + i, x.change(0, i, 1), due[i][1]);
        }
    }

    static void promise10_heightAndGroundFromNoneToTheMost() {
        FolderRows x = machines(4);
        x.make(0, FILE, 0, 0);
        c.due("height of the first", x.change(0, 0, 2), 1);
        c.due("ground of the first", x.change(0, 0, 3), 0);
        for (int i = 1; i < CHANGES; i++) {
            x.move(0, 1, 0, 0);
        }
        for (int m = 1; m < 4; m++) {
            x.send(m - 1, m);
            for (int i = 0; i < CHANGES; i++) {
                x.move(m, 1, 0, 0);
            }
        }
        c.due("height of the last", x.change(3, 19, 2), 80);
        c.due("ground of the last", x.change(3, 19, 3), 79);
        c.due("height between", x.change(2, 0, 2), 41);
        c.due("ground between", x.change(2, 0, 3), 40);
        x.apart(0, 19);
        c.due("ground is what it was", x.change(3, 19, 3), 79);
        c.due("left out", x.change(3, 19, 5), 1);
        c.due("the first left out", x.change(0, 19, 5), 1);
        c.due("the one ahead is not", x.change(0, 18, 5), 0);
    }

    static void promise10_heightIsByTheGreatestNotByHowMany() {
        FolderRows x = machines(3);
        x.make(0, FILE, 0, 0);
        x.make(0, FILE, 0, 0);
        x.make(1, FILE, 0, 0);
        x.send(0, 2);
        x.send(1, 2);
        x.make(2, FILE, 0, 0);
        c.due("height", x.change(2, 0, 2), 3);
        c.due("ground", x.change(2, 0, 3), 3);
    }

    static void promise10_theDayFrom0To29() {
        FolderRows x = oneFile(2);
        nights(x, LAST_DAY);
        x.move(0, 1, 0, 0);
        c.due("first", x.change(0, 0, 4), 0);
        c.due("last", x.change(0, 1, 4), 29);
        c.due("what it is", x.change(0, 1, 0), 1);
        c.due("its thing", x.change(0, 1, 1), 1);
    }

    // ---- 11 thing

    static void promise11_kind5FromTwoRowsOn() {
        FolderRows x = oneFile(4);
        c.due("no row", x.thing(0, 1, 0, 0), FILE);
        x.write(0, 1, 5, 1);
        c.due("one row", x.thing(0, 1, 0, 0), FILE);
        for (int m = 1; m < 4; m++) {
            x.write(m, 1, 5, 1);
            x.send(m, 0);
            c.due("kind", x.thing(0, 1, 0, 0), CLASH);
            c.due("ways, though alike", x.thing(0, 1, 0, 3), m + 1);
        }
    }

    static void promise11_namesAlikeFromTheLatestOn() {
        FolderRows x = new FolderRows();
        for (int t = 1; t < THINGS; t++) {
            x.make(0, FILE, 0, 9);
        }
        c.due("the latest", x.thing(0, 11, 0, 2), 9);
        for (int t = 1; t < 11; t++) {
            c.due("thing " + t, x.thing(0, t, 0, 2), 20 - t);
        }
        x.rules(EARLIEST);
        c.due("the earliest", x.thing(0, 1, 0, 2), 9);
        for (int t = 2; t <= 11; t++) {
            c.due("by RULE 2, thing " + t, x.thing(0, t, 0, 2), 8 + t);
        }
    }

    static void promise11_namesAlikeInOneFolderAlone() {
        FolderRows x = new FolderRows();
        x.make(0, FOLDER, 0, 3);
        x.make(0, FOLDER, 1, 3);
        x.make(0, FILE, 2, 3);
        x.make(0, FILE, 0, 4);
        for (int t = 1; t <= 3; t++) {
            c.due("thing " + t, x.thing(0, t, 0, 2), 3);
        }
        x.move(0, 3, 0, 3);
        c.due("moved to the other of that name", x.thing(0, 3, 0, 2), 3);
        c.due("that one gives way", x.thing(0, 1, 0, 2), 10);
        x.gone(0, 3);
        c.due("and has it again", x.thing(0, 1, 0, 2), 3);
    }

    static void promise11_namesByTheLatestNewOrMoveThatDidSomething() {
        FolderRows x = new FolderRows();
        x.make(0, FILE, 0, 3);
        x.make(0, FILE, 0, 3);
        x.make(0, FOLDER, 0, 0);
        x.send(0, 1);
        c.due("2 is later", x.thing(0, 2, 0, 2), 3);
        x.gone(0, 3);
        x.move(1, 1, 3, 3);
        allKnowAll(x);
        c.due("a move that did nothing", x.thing(0, 2, 0, 2), 3);
        x.write(0, 1, 5, 1);
        c.due("a write", x.thing(0, 2, 0, 2), 3);
        x.move(0, 1, 0, 3);
        c.due("a move to where it is already", x.thing(0, 1, 0, 2), 3);
        c.due("makes the other one give way", x.thing(0, 2, 0, 2), 10);
    }

    static void promise11_theRootHasName0AndTakesNone() {
        FolderRows x = new FolderRows();
        x.make(0, FILE, 0, 0);
        c.due("the root", x.thing(0, 0, 0, 2), 0);
        c.due("a thing in it", x.thing(0, 1, 0, 2), 0);
        c.due("find", x.find(0, 0, 0), 1);
    }

    static void promise11_asOfEachDayAndOfToday() {
        FolderRows x = new FolderRows();
        x.make(0, FILE, 0, 0);
        for (int day = 0; day <= LAST_DAY; day++) {
            if (day % 3 == 0) {
                x.move(0, 1, 0, day / 3);
            }
            c.due("today", x.thing(0, 1, day, 2), day / 3);
            c.due("tomorrow", x.thing(0, 1, day + 1, 2), BAD);
            x.night();
        }
        for (int day = 0; day <= LAST_DAY; day++) {
            c.due("as of " + day, x.thing(0, 1, day, 2), day / 3);
        }
    }

    static void promise11_asOfADayByWhatIsApartNow() {
        FolderRows x = new FolderRows();
        x.make(0, FILE, 0, 0);
        x.night();
        x.apart(0, 0);
        c.due("as of day 0", x.thing(0, 1, 0, 0), NONE);
        x.let(0);
        c.due("let", x.thing(0, 1, 0, 0), FILE);
    }

    // ---- 12 bytes

    static void promise12_eachByteFrom0To255() {
        FolderRows x = oneFile(1);
        x.room(0, 200);
        x.write(0, 1, 0x00017F80FEFFL, 6);
        int[] due = {0, 1, 127, 128, 254, 255};
        for (int i = 0; i < due.length; i++) {
            c.due("byte " + i, x.bytes(0, 1, 0, i), due[i]);
        }
        c.due("byte 6", x.bytes(0, 1, 0, 6), BAD);
        c.due("what -2", x.bytes(0, 1, 0, -2), BAD);
    }

    // ---- 13 bulk

    static void promise13_halvesAreRoundedDown() {
        for (int name = 0; name <= 9; name++) {
            for (int n = 0; n <= 8; n++) {
                FolderRows x = machines(1);
                x.make(0, FILE, 0, name);
                x.write(0, 1, 0x0101010101010101L, n);
                c.due("LINK of name " + name, x.bulk(3, 0, 1), (4 + name) / 2);
                c.due("HELD of " + n, x.bulk(4, 0, 1), 4 + name + n - n / 2);
                c.due("FILE of " + n, x.bulk(1, 0, 1), 4 + name + n);
                c.due("CLASH of " + n, x.bulk(5, 0, 1), 4 + name + n + 5);
            }
        }
    }

    static void promise13_theMost() {
        FolderRows x = oneFile(4);
        for (int m = 0; m < 4; m++) {
            x.write(m, 1, -1L, 8);
        }
        allKnowAll(x);
        c.due("FILE", x.bulk(1, 0, 1), 4 + 32);
        c.due("HELD", x.bulk(4, 0, 1), 4 + 16);
        c.due("CLASH", x.bulk(5, 0, 1), 4 + 32 + 20);
        for (int t = 2; t < THINGS; t++) {
            x.make(0, FILE, 0, 0);
        }
        c.due("FOLDER", x.bulk(2, 0, 0), 4 + 33);
        c.due("THING by its name", x.bulk(0, 0, 1), 4 + 19);
        c.due("LINK by its name", x.bulk(3, 0, 1), 11);
    }

    static void promise13_asIfOfAKindThatItIsNot() {
        FolderRows x = new FolderRows();
        x.make(0, FOLDER, 0, 5);
        x.make(0, FOLDER, 1, 1);
        x.make(0, FILE, 2, 1);
        c.due("a folder as a FILE", x.bulk(1, 0, 1), 9);
        c.due("a folder as HELD", x.bulk(4, 0, 1), 9);
        c.due("a folder as a CLASH", x.bulk(5, 0, 1), 9);
        c.due("a FOLDER by what is right in it", x.bulk(2, 0, 1), 12);
        c.due("a file as a FOLDER", x.bulk(2, 0, 3), 5);
        c.due("the root as a LINK", x.bulk(3, 0, 0), 2);
        c.due("a file without rows as a CLASH", x.bulk(5, 0, 3), 5);
    }

    // ---- 14 to 17

    static void promise14_from1To12() {
        FolderRows x = new FolderRows();
        for (int t = 1; t < THINGS; t++) {
            c.due("things", x.things(0, 0), t);
            x.make(0, FILE, 0, 0);
        }
        c.due("twelve", x.things(0, 0), 12);
        c.due("the other knows none", x.things(1, 0), 1);
        x.apart(0, 0);
        c.due("left out", x.things(0, 0), 1);
    }

    static void promise15_eachNameFrom0To22() {
        FolderRows x = new FolderRows();
        for (int t = 1; t < THINGS; t++) {
            x.make(0, FILE, 0, 9);
        }
        for (int name = 0; name <= 22; name++) {
            int due = name == 9 ? 11 : name >= 10 && name <= 19 ? 20 - name : NONE;
            c.due("name " + name, x.find(0, 0, name), due);
        }
    }

    static void promise15_byTheTreeNow() {
        FolderRows x = new FolderRows();
        x.make(0, FILE, 0, 1);
        x.night();
        x.move(0, 1, 0, 2);
        c.due("its name of day 0", x.find(0, 0, 1), NONE);
        c.due("its name now", x.find(0, 0, 2), 1);
        x.apart(0, 1);
        c.due("the move left out", x.find(0, 0, 1), 1);
    }

    /** As many bytes as there may be, all 255, in files of the highest numbers. */
    static void promise16_theMost() {
        FolderRows x = machines(4);
        for (int t = 1; t < THINGS; t++) {
            x.make(0, FILE, 0, 9);
        }
        sendToAll(x, 0);
        for (int m = 0; m < 4; m++) {
            for (int t = 11; t > (m == 0 ? 2 : 0); t--) {
                c.holds("it is written", x.write(m, t, -1L, 8) >= 0);
            }
        }
        allKnowAll(x);
        long due = 1;
        for (int t = 1; t < THINGS; t++) {
            int name = t == 11 ? 9 : 20 - t;
            int ways = t > 2 ? 4 : 3;
            due += 1 + t * (7L * name + ways * 8 * 255);
        }
        for (int m = 0; m < 4; m++) {
            c.due("sum at " + m, x.sum(m, 0), due % 1000003);
        }
    }

    static void promise16_eachPartOfIt() {
        FolderRows x = new FolderRows();
        c.due("the root alone", x.sum(0, 0), 1);
        x.make(0, FOLDER, 0, 0);
        c.due("1 for each", x.sum(0, 0), 2);
        x.make(0, FILE, 1, 0);
        c.due("31 times its folder", x.sum(0, 0), 3 + 2 * 31);
        x.move(0, 2, 1, 9);
        c.due("7 times its name", x.sum(0, 0), 3 + 2 * (31 + 63));
        x.write(0, 2, 0xFF00, 2);
        c.due("its bytes", x.sum(0, 0), 3 + 2 * (31 + 63 + 255));
        x.night();
        x.gone(0, 1);
        c.due("today", x.sum(0, 1), 1);
        c.due("as of day 0", x.sum(0, 0), 3 + 2 * (31 + 63 + 255));
    }

    static void promise17_fromNoneTo40() {
        FolderRows x = new FolderRows();
        c.due("SAME", x.differ(0, 1), 0);
        for (int i = 0; i < CHANGES; i++) {
            c.due("differ", x.differ(0, 1), 2 * i);
            for (int m = 0; m < 2; m++) {
                if (i == 0) {
                    x.make(m, FILE, 0, 0);
                } else {
                    x.move(m, 1, 0, 0);
                }
            }
        }
        c.due("the most of two", x.differ(1, 0), 40);
        c.due("of one and itself", x.differ(0, 0), 0);
        x.send(0, 1);
        c.due("one knows all", x.differ(0, 1), 20);
        x.apart(0, 0);
        c.due("left out ones are known", x.differ(0, 1), 20);
    }

    // ---- 18 to 20 apart

    static void promise18_fromEachNumberOn() {
        FolderRows x = oneFile(2);
        for (int i = 1; i < CHANGES; i++) {
            x.move(0, 1, 0, i % 10);
        }
        int before = NONE;
        for (int from = 0; from <= CHANGES; from++) {
            c.due("apart from " + from, x.apart(0, from), before);
            before = from;
            c.due("left out", x.count(5), CHANGES - from);
            c.due("taken", x.taken(0), CHANGES - from);
            c.due("its name", x.thing(0, 1, 0, 2), from == 0 ? STATE : (from - 1) % 10);
            for (int i = 0; i < CHANGES; i++) {
                c.due("change " + i, x.change(0, i, 5), i >= from ? 1 : 0);
            }
        }
    }

    static void promise18_newOnesFromThatNumberOn() {
        FolderRows x = new FolderRows();
        x.apart(0, 1);
        c.due("number 0", x.make(0, FILE, 0, 1), 1);
        c.due("is not left out", x.thing(0, 1, 0, 2), 1);
        c.due("number 1", x.move(0, 1, 0, 2), 1);
        c.due("is", x.thing(0, 1, 0, 2), 1);
        c.due("number 2", x.move(0, 1, 0, 3), 2);
        c.due("is", x.thing(0, 1, 0, 2), 1);
        c.due("left out", x.count(5), 2);
    }

    static void promise18_allWhoseGroundHasOneAgainAndAgain() {
        FolderRows x = machines(4);
        x.make(0, FILE, 0, 0);
        for (int m = 1; m < 4; m++) {
            x.make(m, FILE, 0, m);
            x.send(m - 1, m);
            x.make(m, FILE, 0, m);
        }
        x.apart(0, 0);
        for (int m = 1; m < 4; m++) {
            c.due("ahead of it, at " + m, x.change(m, 0, 5), 0);
            c.due("on it, at " + m, x.change(m, 1, 5), 1);
        }
        c.due("in all", x.count(5), 4);
        x.apart(3, 0);
        c.due("two apart", x.count(5), 5);
        x.let(0);
        c.due("one let", x.count(5), 2);
        x.let(3);
        c.due("both let", x.count(5), 0);
    }

    static void promise18_ofAllTreesOfAllDays() {
        FolderRows x = oneFile(3);
        x.night();
        x.apart(0, 0);
        for (int m = 0; m < 3; m++) {
            for (int day = 0; day < 2; day++) {
                c.due("things", x.things(m, day), 1);
            }
        }
    }

    static void promise19_fromWhichItWas() {
        FolderRows x = oneFile(2);
        for (int from = 0; from <= CHANGES; from++) {
            c.due("apart", x.apart(1, from), NONE);
            c.due("let", x.let(1), from);
        }
        x.apart(0, 0);
        c.due("nothing there", x.things(0, 0), 1);
        x.let(0);
        c.due("all as ever", x.things(0, 0), 2);
    }

    static void promise20_onlyThoseThatAreKnownThere() {
        FolderRows x = machines(2);
        x.make(0, FILE, 0, 0);
        x.make(0, FILE, 0, 1);
        x.apart(0, 0);
        c.due("at 0", x.taken(0), 2);
        c.due("at 1", x.taken(1), 0);
        x.sendSome(0, 1, 1);
        c.due("at 1 one", x.taken(1), 1);
        x.make(1, FILE, 0, 2);
        c.due("with what stands on it", x.taken(1), 2);
        c.due("at 0 as ever", x.taken(0), 2);
        c.due("in all", x.count(5), 3);
    }

    // ---- 21 to 24 pieces

    static void promise21_from0To200() {
        FolderRows x = new FolderRows();
        int before = 20;
        for (int v = 0; v <= 200; v++) {
            c.due("room(" + v + ")", x.room(0, v), before);
            before = v;
        }
        c.due("of the other it is 20", x.room(1, 20), 20);
    }

    static void promise21_20AtFirst() {
        FolderRows x = oneFile(1);
        c.due("8", x.write(0, 1, 0x0101010101010101L, 8), 1);
        c.due("16", x.write(0, 1, 0x0202020202020202L, 8), 2);
        c.due("21", x.write(0, 1, 0x0404040404L, 5), STATE);
        c.due("20", x.write(0, 1, 0x04040404L, 4), 3);
        c.due("bytes", x.pieces(0, 1, 0), 20);
    }

    static void promise22_cutBehindEachThatIs3Modulo4() {
        for (int b = 0; b <= 255; b++) {
            FolderRows x = oneFile(1);
            x.write(0, 1, b * 256L + 1, 2);
            c.due("pieces of " + b + ", 1", x.pieces(0, 0, 0), b % 4 == 3 ? 2 : 1);
            c.due("bytes", x.pieces(0, 1, 0), 2);
        }
    }

    static void promise22_behindTheLastOneAnyway() {
        FolderRows x = oneFile(1);
        x.write(0, 1, 0x0103, 2);
        c.due("no empty piece behind the cut", x.pieces(0, 0, 0), 1);
        x.write(0, 1, 0x010304, 3);
        c.due("the rest is one", x.pieces(0, 0, 0), 2);
        x.write(0, 1, 0, 0);
        c.due("an empty row has none", x.pieces(0, 0, 0), 2);
    }

    static void promise22_eachOnceByItsBytes() {
        FolderRows x = oneFile(1);
        x.write(0, 1, 0x00, 1);
        x.write(0, 1, 0x0000, 2);
        x.write(0, 1, 0x03, 1);
        x.write(0, 1, 0x0003, 2);
        c.due("zeros count", x.pieces(0, 0, 0), 4);
        c.due("their bytes", x.pieces(0, 1, 0), 6);
        x.write(0, 1, 0x0303000300L, 5);
        c.due("all of them had", x.pieces(0, 0, 0), 4);
        x.write(0, 1, 0x0080, 2);
        x.write(0, 1, 0x0180, 2);
        x.write(0, 1, 0x0100, 2);
        c.due("each bit counts", x.pieces(0, 0, 0), 7);
        x.room(0, 200);
        x.write(0, 1, 0x0101010101010101L, 8);
        x.write(0, 1, 0x8101010101010101L, 8);
        x.write(0, 1, 0x0501010101010101L, 8);
        c.due("the highest byte of eight counts", x.pieces(0, 0, 0), 10);
    }

    static void promise22_higherBytesThanThoseWrittenAreNotCut() {
        FolderRows x = oneFile(1);
        for (int n = 0; n < 8; n++) {
            x.write(0, 1, 0x0701010101010101L, n);
            c.due("one piece of each length, " + n, x.pieces(0, 0, 0), n);
            x.room(0, 200);
        }
    }

    static void promise22_byTheRowsOfThatMachineAlone() {
        FolderRows x = machines(4);
        for (int t = 1; t < THINGS; t++) {
            x.make(0, FILE, 0, 0);
        }
        sendToAll(x, 0);
        int[] written = {1, 2, 11};
        for (int m = 0; m < 4; m++) {
            for (int t : written) {
                x.write(m, t, 64 * m + 4 * t + 3, 1);
            }
        }
        for (int m = 1; m < 4; m++) {
            x.send(m, 0);
        }
        for (int t : written) {
            c.due("four rows at 0, lacking three, " + t, x.pieces(0, 2, t), 3);
            c.due("one row at 1, lacking none, " + t, x.pieces(1, 2, t), 0);
            c.due("FILE at 0", x.bulk(1, 0, t), 4 + x.thing(0, t, 0, 2) + 4);
            c.due("FILE at 1", x.bulk(1, 1, t), 4 + x.thing(1, t, 0, 2) + 1);
            c.due("the fourth row at 0", x.bytes(0, t, 3, 0), 192 + 4 * t + 3);
            c.due("no second row at 1", x.bytes(1, t, 1, -1), BAD);
            c.due("no row ahead of the first", x.bytes(0, t, -1, -1), BAD);
        }
    }

    static void promise22_lackingFromNoneToAll() {
        FolderRows x = oneFile(4);
        for (int m = 0; m < 4; m++) {
            long row = 0;
            for (int i = 0; i < 8; i++) {
                row = (row << 8) | (32 * m + 4 * i + 3);
            }
            x.write(m, 1, row, 8);
        }
        c.due("none", x.pieces(0, 2, 1), 0);
        for (int m = 1; m < 4; m++) {
            x.send(m, 0);
            c.due("lacking", x.pieces(0, 2, 1), 8 * m);
        }
        x.room(0, 32);
        c.due("all come", x.fetch(0, 1), 24);
        c.due("none", x.pieces(0, 2, 1), 0);
        c.due("32 pieces", x.pieces(0, 0, 0), 32);
    }

    static void promise22_200BytesAndNotOneMore() {
        FolderRows x = oneFile(4);
        x.room(0, 200);
        for (int i = 1; i < CHANGES; i++) {
            x.write(0, 1, 0x0101010101010100L + 4 * i, 8);
        }
        c.due("its own", x.pieces(0, 1, 0), 152);
        for (int round = 1; round <= 2; round++) {
            for (int m = 1; m < 4; m++) {
                x.write(m, 1, 0x0202020202020200L + 4 * (4 * round + m), 8);
                x.send(m, 0);
            }
            c.due("what comes", x.fetch(0, 1), 24);
        }
        c.due("bytes", x.pieces(0, 1, 0), 200);
        c.due("pieces", x.pieces(0, 0, 0), 25);
        x.write(1, 1, 5, 1);
        x.send(1, 0);
        c.refused(x, "one byte more", () -> x.fetch(0, 1), STATE);
        c.refused(x, "room for less", () -> x.room(0, 199), STATE);
    }

    static void promise23_asItIsKnownThere() {
        FolderRows x = oneFile(2);
        x.write(0, 1, 5, 1);
        c.due("a row that is not known", x.fetch(1, 1), 0);
        x.send(0, 1);
        x.apart(0, 1);
        c.due("a row that is left out", x.fetch(1, 1), 0);
        x.let(0);
        c.due("a row that is known", x.fetch(1, 1), 1);
        c.due("all had", x.fetch(1, 1), 0);
        c.due("the other keeps it", x.pieces(0, 0, 0), 1);
    }

    static void promise24_whatNoOtherFileOfItsTreeHas() {
        FolderRows x = new FolderRows();
        x.make(0, FILE, 0, 0);
        x.make(0, FILE, 0, 1);
        x.write(0, 1, 0x01030203L, 4);
        x.write(0, 2, 0x0203, 2);
        x.send(0, 1);
        x.fetch(1, 1);
        x.fetch(1, 2);
        c.due("2, 3 stays", x.away(0, 1), 2);
        c.due("it is not lacking", x.pieces(0, 2, 2), 0);
        x.gone(0, 2);
        c.due("no other file of its tree now", x.away(0, 1), 2);
        c.due("none is left", x.pieces(0, 0, 0), 0);
        c.due("again none to go", x.away(0, 1), 0);
        c.refused(x, "at 1 the other is there, but 1, 3 is the last one", () -> x.away(1, 1), STATE);
    }

    static void promise24_piecesThatStayAreAsTheyWere() {
        FolderRows x = new FolderRows();
        x.make(0, FILE, 0, 0);
        x.make(0, FILE, 0, 1);
        x.write(0, 1, 0x03, 1);
        x.write(0, 2, 0x0103020203L, 5);
        x.send(0, 1);
        x.fetch(1, 1);
        c.due("one byte goes", x.away(0, 1), 1);
        c.due("five stay", x.pieces(0, 1, 0), 5);
        c.due("none lacks", x.pieces(0, 2, 2), 0);
        c.due("they can be fetched", x.fetch(1, 2), 5);
        c.due("they can go", x.away(0, 2), 5);
        c.due("none is left", x.pieces(0, 1, 0), 0);
        c.due("it comes back", x.fetch(0, 1), 1);
    }

    /** Files 2 to 10 hold 136 pieces, no two alike, at four machines; 11 holds the one of 1. */
    static void promise24_whatTheLastOfManyFilesHasStays() {
        FolderRows x = machines(4);
        for (int t = 1; t < THINGS; t++) {
            x.make(0, FILE, 0, 0);
        }
        sendToAll(x, 0);
        int made = 0;
        for (int m = 0; m < 4; m++) {
            x.room(m, 200);
            for (int t = m == 0 ? 4 : 2; t <= 10; t++) {
                long row = 0;
                for (int i = 0; i < 4; i++) {
                    row = (row << 16) | (made % 64 * 4) << 8 | (made / 64 * 4 + 3);
                    made++;
                }
                c.holds("it is written", x.write(m, t, row, 8) >= 0);
            }
        }
        x.write(0, 1, 0x0505, 2);
        x.write(0, 11, 0x0505, 2);
        allKnowAll(x);
        c.due("made", made, 136);
        c.due("fetch", x.fetch(1, 1), 2);
        c.due("none goes at 0", x.away(0, 1), 0);
        c.due("none goes at 1", x.away(1, 11), 0);
        x.gone(1, 11);
        c.due("it goes at 1", x.away(1, 1), 2);
        c.due("the last one stays at 0, where 11 is there", x.away(0, 1), 0);
        x.send(1, 0);
        c.refused(x, "and where it is gone", () -> x.away(0, 1), STATE);
    }

    // ---- 25 to 28 days, shares

    static void promise25_eachDayTo29() {
        FolderRows x = new FolderRows();
        for (int day = 0; day < LAST_DAY; day++) {
            c.due("today", x.count(2), day);
            c.due("night", x.night(), day + 1);
        }
        c.due("the last", x.count(2), 29);
    }

    static void promise25_whatEachKnewAtTheEndOfEachDayIsKept() {
        FolderRows x = new FolderRows();
        x.make(0, FILE, 0, 0);
        x.night();
        x.make(0, FILE, 0, 1);
        x.send(0, 1);
        x.night();
        x.send(0, 1);
        int[][] due = {{2, 3, 3}, {1, 3, 3}};
        for (int m = 0; m < 2; m++) {
            for (int day = 0; day < 3; day++) {
                c.due("things at " + m + " on " + day, x.things(m, day), due[m][day]);
            }
        }
    }

    static void promise26_anyThing0To11() {
        FolderRows x = new FolderRows();
        for (int t = 0; t < THINGS; t++) {
            c.due("thing " + t, x.share(t % 8, t), t);
        }
        c.due("all hold", x.count(3), 12);
    }

    static void promise27_onWhichDayItBegan() {
        FolderRows x = new FolderRows();
        for (int day = 0; day < 20; day++) {
            c.due("share", x.share(0, 0), day);
            x.night();
        }
        for (int s = 19; s >= 0; s--) {
            c.due("take " + s, x.take(s), s);
            c.due("that hold", x.count(3), s);
        }
    }

    static void promise28_fromTheDayItBeganToTheOneAheadOfTakingItBack() {
        FolderRows x = oneFile(1);
        nights(x, 2);
        x.share(7, 1);
        nights(x, 2);
        x.take(0);
        nights(x, 2);
        int[] due = {0, 0, 1, 1, 0, 0, 0};
        for (int day = 0; day < due.length; day++) {
            c.due("day " + day, x.could(7, 0, 1, day), due[day]);
        }
    }

    static void promise28_begunAndTakenOnOneDay() {
        FolderRows x = oneFile(1);
        x.share(0, 1);
        c.due("begun", x.could(0, 0, 1, 0), 1);
        x.take(0);
        c.due("taken", x.could(0, 0, 1, 0), 0);
        x.share(0, 1);
        c.due("another one", x.could(0, 0, 1, 0), 1);
    }

    static void promise28_ofAFolderInWhichItLiesOverAnyMany() {
        FolderRows x = new FolderRows();
        for (int t = 1; t < THINGS; t++) {
            x.make(0, FOLDER, t - 1, 0);
        }
        x.share(0, 0);
        x.share(1, 1);
        x.share(2, 10);
        for (int t = 0; t < THINGS; t++) {
            c.due("by the root, " + t, x.could(0, 0, t, 0), 1);
            c.due("by 1, " + t, x.could(1, 0, t, 0), t >= 1 ? 1 : 0);
            c.due("by 10, " + t, x.could(2, 0, t, 0), t >= 10 ? 1 : 0);
            c.due("by none, " + t, x.could(3, 0, t, 0), 0);
        }
    }

    static void promise28_byThatMachinesTreeOfThatDay() {
        FolderRows x = new FolderRows();
        x.make(0, FOLDER, 0, 0);
        x.make(0, FILE, 0, 1);
        x.send(0, 1);
        x.share(0, 1);
        x.night();
        x.move(0, 2, 1, 1);
        x.night();
        x.send(0, 1);
        int[][] due = {{0, 1, 1}, {0, 0, 1}};
        for (int m = 0; m < 2; m++) {
            for (int day = 0; day < 3; day++) {
                c.due("at " + m + " on " + day, x.could(0, m, 2, day), due[m][day]);
            }
        }
    }

    // ---- as many changes as there can be

    static void promise30_80ChangesAndEveryCall() {
        FolderRows x = oneFile(4);
        for (int m = 0; m < 4; m++) {
            for (int i = m == 0 ? 1 : 0; i < CHANGES; i++) {
                c.due("change", x.move(m, 1, 0, m), i);
            }
        }
        allKnowAll(x);
        c.due("changes", x.count(1), 80);
        for (int m = 0; m < 4; m++) {
            int machine = m;
            c.refused(x, "make", () -> x.make(machine, FILE, 0, 0), FULL);
            c.refused(x, "move", () -> x.move(machine, 1, 0, 0), FULL);
            c.refused(x, "gone", () -> x.gone(machine, 1), FULL);
            c.refused(x, "write", () -> x.write(machine, 1, 5, 1), FULL);
            c.due("send", x.send(m, (m + 1) % 4), 0);
            c.due("sendSome", x.sendSome(m, (m + 1) % 4, 20), 0);
            c.due("the latest name", x.thing(m, 1, 0, 2), 3);
            c.due("find", x.find(m, 0, 3), 1);
            c.due("odd", x.odd(m, 0, 0), STATE);
        }
        c.due("apart", x.apart(0, 0), NONE);
        c.due("all stand on the first", x.count(5), 80);
        c.due("taken", x.taken(2), 80);
    }

    // ---- 29 to 31

    static void promise29_noChangesAndOneDay() {
        FolderRows x = new FolderRows();
        c.due("ways", x.odd(0, 0, 0), 1);
        c.due("all", x.odd(0, 0, 1), 1);
        x.night();
        c.due("ways on two days", x.odd(0, 1, 0), 1);
        c.due("all on two days", x.odd(0, 1, 1), 1);
        FolderRows y = oneFile(1);
        c.due("one change, one day", y.odd(0, 0, 0), 1);
        c.due("all", y.odd(0, 0, 1), 1);
    }

    static void promise29_8DaysAnd12Changes() {
        FolderRows x = oneFile(1);
        for (int i = 1; i < 12; i++) {
            x.move(0, 1, 0, 0);
        }
        long all = 1;
        for (int day = 0; day < 8; day++) {
            all = 1;
            for (int i = 0; i < 12; i++) {
                all *= day + 1;
            }
            c.due("D^N", x.odd(0, day, 1), all);
            c.due("all twelve on day 0", x.odd(0, 0, 0), 1);
            c.due("none or more", x.odd(0, day, 0), day == 0 ? 1 : all);
            x.night();
        }
        c.due("8^12", all, 68719476736L);
    }

    static void promise29_kOrMore() {
        FolderRows x = oneFile(1);
        x.move(0, 1, 0, 0);
        x.night();
        x.move(0, 1, 0, 0);
        x.night();
        c.due("2 or more of 3 on 3 days", x.odd(0, 0, 0), 3 * 2 + 1);
        c.due("1 or more", x.odd(0, 1, 0), 27 - 8);
        c.due("0 or more", x.odd(0, 2, 0), 27);
        for (int day = 0; day < 3; day++) {
            c.due("all, whatever was made on " + day, x.odd(0, day, 1), 27);
        }
        x.apart(0, 0);
        c.due("left out ones are made all the same", x.odd(0, 0, 0), 7);
    }

    static void promise30_eachFromNoneToTheMost() {
        FolderRows x = machines(4);
        for (int m = 0; m < 4; m++) {
            x.make(m, FILE, 0, 0);
            for (int i = 1; i < CHANGES; i++) {
                x.move(m, 1, 0, 0);
            }
            x.apart(m, 0);
        }
        for (int s = 0; s < 20; s++) {
            x.share(0, 0);
        }
        x.rules(3);
        nights(x, LAST_DAY);
        int[] due = {4, 80, 29, 20, 3, 80};
        for (int what = 0; what < due.length; what++) {
            c.due("count(" + what + ")", x.count(what), due[what]);
        }
    }

    static void promise31_asOftenAsEachBodyIsAsked() {
        int[] comes = {1, 11, 101, 1001, 10011, 100011};
        for (int kind = 0; kind < comes.length; kind++) {
            FolderRows x = oneFile(1);
            for (int times = 0; times <= 12; times++) {
                c.due("kind " + kind, x.trace(), (long) times * comes[kind]);
                x.bulk(kind, 0, times % 2);
            }
        }
    }

    static void promise31_noOtherCallComesToIt() {
        FolderRows x = used();
        c.due("trace", x.trace(), 0);
        Snapshot.of(x);
        c.due("nor by all that tell", x.trace(), 0);
        x.bulk(6, 0, 0);
        x.bulk(0, 0, 12);
        x.bulk(0, 4, 0);
        x.bulk(0, 0, 11);
        c.due("nor by a bulk that is refused", x.trace(), 0);
    }
}
