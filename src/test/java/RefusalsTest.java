/**
 * What is refused as STATE or FULL, each reason alone, in the order BAD, STATE, FULL; beside it
 * the nearest call that is not refused.
 */
public final class RefusalsTest {
    private static final int BAD = FolderRows.BAD, STATE = FolderRows.STATE, FULL = FolderRows.FULL, NONE = FolderRows.NONE;
    private static final int FILE = 1, FOLDER = 2;
    private static final int CHANGES = 20, THINGS = 12, LAST_DAY = 29;
    private static final Checks c = new Checks();

    public static void main(String[] args) {
        c.runAll(RefusalsTest.class);
        c.end();
    }

    /** Folder 1, file 2 in it, folder 3 in it, all at machine 0 of two. */
    private static FolderRows some() {
        FolderRows x = new FolderRows();
        x.make(0, FOLDER, 0, 1);
        x.make(0, FILE, 1, 2);
        x.make(0, FOLDER, 1, 3);
        return x;
    }

    /** The same, with as many changes of machine 0 as there may be. */
    private static FolderRows fullOfChanges() {
        FolderRows x = some();
        for (int i = 3; i < CHANGES; i++) {
            x.move(0, 2, 1, 2);
        }
        return x;
    }

    /** Folders 1 to 11, each in the one ahead of it. */
    private static FolderRows chain() {
        FolderRows x = new FolderRows();
        for (int t = 1; t < THINGS; t++) {
            x.make(0, FOLDER, t - 1, 0);
        }
        return x;
    }

    // ---- 4 make

    static void promise04_stateFolderWasNeverMade() {
        FolderRows x = some();
        c.refused(x, "make in 4", () -> x.make(0, FILE, 4, 0), STATE);
        c.refused(x, "make in 11", () -> x.make(0, FILE, 11, 0), STATE);
        c.due("make in 3", x.make(0, FILE, 3, 0), 4);
    }

    static void promise04_stateFolderIsAFile() {
        FolderRows x = some();
        c.refused(x, "make in a file", () -> x.make(0, FOLDER, 2, 0), STATE);
    }

    static void promise04_stateFolderIsGone() {
        FolderRows x = some();
        x.gone(0, 1);
        c.refused(x, "make in what is gone", () -> x.make(0, FILE, 1, 0), STATE);
        c.refused(x, "make in what went with it", () -> x.make(0, FILE, 3, 0), STATE);
    }

    static void promise04_stateFolderIsNotKnownAtThatMachine() {
        FolderRows x = some();
        c.refused(x, "make at 1 in 1", () -> x.make(1, FILE, 1, 0), STATE);
        x.sendSome(0, 1, 1);
        c.due("when it is known", x.make(1, FILE, 1, 0), 2);
    }

    static void promise04_stateFolderIsLeftOut() {
        FolderRows x = some();
        x.apart(0, 2);
        c.refused(x, "make in 3", () -> x.make(0, FILE, 3, 0), STATE);
        x.let(0);
        c.due("when it is let", x.make(0, FILE, 3, 0), 4);
    }

    static void promise04_fullBeyond11Things() {
        FolderRows x = new FolderRows();
        for (int t = 1; t <= 11; t++) {
            c.due("make " + t, x.make(0, FOLDER, 0, 0), t);
        }
        c.refused(x, "make a twelfth", () -> x.make(0, FOLDER, 0, 0), FULL);
    }

    static void promise04_fullBeyond11ThingsThoughSomeAreGone() {
        FolderRows x = chain();
        x.gone(0, 1);
        c.due("the root alone is there", x.things(0, 0), 1);
        c.refused(x, "make", () -> x.make(0, FOLDER, 0, 0), FULL);
    }

    static void promise04_fullBeyond11ThingsThoughSomeAreLeftOut() {
        FolderRows x = chain();
        x.apart(0, 0);
        c.refused(x, "make", () -> x.make(0, FOLDER, 0, 0), FULL);
    }

    static void promise04_fullByThingsThatWereSent() {
        FolderRows x = chain();
        c.due("ahead of that", x.make(1, FILE, 0, 0), 1);
        x.send(0, 1);
        c.refused(x, "make at 1", () -> x.make(1, FILE, 0, 0), FULL);
    }

    static void promise04_full20Changes() {
        FolderRows x = new FolderRows();
        x.make(0, FOLDER, 0, 0);
        for (int i = 1; i < CHANGES - 1; i++) {
            x.move(0, 1, 0, 0);
        }
        c.due("the twentieth", x.make(0, FOLDER, 0, 0), 2);
        c.refused(x, "one more", () -> x.make(0, FOLDER, 0, 0), FULL);
        c.due("the other machine is not full", x.make(1, FOLDER, 0, 0), 1);
    }

    static void promise04_badThenStateThenFull() {
        FolderRows x = fullOfChanges();
        c.refused(x, "BAD kind, STATE and FULL", () -> x.make(0, 3, 4, 0), BAD);
        c.refused(x, "BAD name, STATE and FULL", () -> x.make(0, FILE, 4, 10), BAD);
        c.refused(x, "STATE and FULL", () -> x.make(0, FILE, 4, 0), STATE);
        c.refused(x, "FULL", () -> x.make(0, FILE, 0, 0), FULL);
        FolderRows y = chain();
        c.refused(y, "BAD and no number left", () -> y.make(0, 0, 0, 0), BAD);
        y.gone(0, 11);
        c.refused(y, "STATE and no number left", () -> y.make(0, FILE, 11, 0), STATE);
    }

    // ---- 5 move

    static void promise05_stateThingIsNotThere() {
        FolderRows x = some();
        c.refused(x, "never made", () -> x.move(0, 4, 0, 0), STATE);
        c.refused(x, "not known at 1", () -> x.move(1, 2, 0, 0), STATE);
        x.gone(0, 2);
        c.refused(x, "gone", () -> x.move(0, 2, 0, 0), STATE);
        x.apart(0, 2);
        c.refused(x, "left out", () -> x.move(0, 3, 0, 0), STATE);
    }

    static void promise05_stateFolderIsNotThere() {
        FolderRows x = some();
        c.refused(x, "never made", () -> x.move(0, 2, 4, 0), STATE);
        x.gone(0, 3);
        c.refused(x, "gone", () -> x.move(0, 2, 3, 0), STATE);
    }

    static void promise05_stateFolderIsAFile() {
        FolderRows x = some();
        c.refused(x, "into a file", () -> x.move(0, 3, 2, 0), STATE);
        c.refused(x, "a file into itself", () -> x.move(0, 2, 2, 0), STATE);
    }

    static void promise05_stateTheRoot() {
        FolderRows x = some();
        c.refused(x, "into a folder", () -> x.move(0, 0, 1, 0), STATE);
        c.refused(x, "into itself", () -> x.move(0, 0, 0, 0), STATE);
    }

    static void promise05_stateFolderIsIt() {
        FolderRows x = some();
        c.refused(x, "into itself", () -> x.move(0, 1, 1, 0), STATE);
    }

    static void promise05_stateFolderLiesInItOverAnyMany() {
        FolderRows x = chain();
        for (int inner = 2; inner < THINGS; inner++) {
            int folder = inner;
            c.refused(x, "1 into " + folder, () -> x.move(0, 1, folder, 0), STATE);
        }
        c.due("the last into the first", x.move(0, 11, 1, 0), 11);
        c.due("which now lies in 1 alone", x.move(0, 2, 11, 0), 12);
    }

    static void promise05_aMoveToWhereItIsAlreadyIsNotRefused() {
        FolderRows x = some();
        c.due("the same folder, the same name", x.move(0, 2, 1, 2), 3);
    }

    static void promise05_full20Changes() {
        FolderRows x = some();
        for (int i = 3; i < CHANGES; i++) {
            c.due("change " + i, x.move(0, 2, 1, 2), i);
        }
        c.refused(x, "one more", () -> x.move(0, 2, 1, 2), FULL);
    }

    static void promise05_badThenStateThenFull() {
        FolderRows x = fullOfChanges();
        c.refused(x, "BAD, STATE and FULL", () -> x.move(0, 4, 4, 10), BAD);
        c.refused(x, "STATE of the thing, and FULL", () -> x.move(0, 4, 1, 0), STATE);
        c.refused(x, "STATE of the folder, and FULL", () -> x.move(0, 1, 3, 0), STATE);
        c.refused(x, "FULL", () -> x.move(0, 3, 0, 0), FULL);
    }

    // ---- 6 gone

    static void promise06_stateNotThere() {
        FolderRows x = some();
        c.refused(x, "never made", () -> x.gone(0, 4), STATE);
        c.refused(x, "not known at 1", () -> x.gone(1, 1), STATE);
        x.gone(0, 1);
        c.refused(x, "gone", () -> x.gone(0, 1), STATE);
        c.refused(x, "gone with its folder", () -> x.gone(0, 2), STATE);
    }

    static void promise06_stateLeftOut() {
        FolderRows x = some();
        x.apart(0, 1);
        c.refused(x, "left out", () -> x.gone(0, 2), STATE);
        c.due("not left out", x.gone(0, 1), 3);
    }

    static void promise06_stateTheRoot() {
        FolderRows x = some();
        c.refused(x, "the root", () -> x.gone(0, 0), STATE);
    }

    static void promise06_full20Changes() {
        FolderRows x = fullOfChanges();
        c.refused(x, "gone", () -> x.gone(0, 2), FULL);
        FolderRows y = some();
        for (int i = 3; i < CHANGES - 1; i++) {
            y.move(0, 2, 1, 2);
        }
        c.due("the twentieth", y.gone(0, 2), 19);
    }

    static void promise06_badThenStateThenFull() {
        FolderRows x = fullOfChanges();
        c.refused(x, "BAD and FULL", () -> x.gone(0, 12), BAD);
        c.refused(x, "STATE and FULL", () -> x.gone(0, 0), STATE);
        c.refused(x, "STATE of what is not there, and FULL", () -> x.gone(0, 4), STATE);
    }

    // ---- 7 write

    static void promise07_stateNoFileThatIsThere() {
        FolderRows x = some();
        c.refused(x, "the root", () -> x.write(0, 0, 5, 1), STATE);
        c.refused(x, "a folder", () -> x.write(0, 1, 5, 1), STATE);
        c.refused(x, "never made", () -> x.write(0, 4, 5, 1), STATE);
        c.refused(x, "not known at 1", () -> x.write(1, 2, 5, 1), STATE);
        x.gone(0, 2);
        c.refused(x, "gone", () -> x.write(0, 2, 5, 1), STATE);
        x.rules(1);
        c.refused(x, "gone, by RULE 1 too", () -> x.write(0, 2, 5, 1), STATE);
        x.rules(0);
        x.apart(0, 1);
        c.refused(x, "left out", () -> x.write(0, 2, 5, 1), STATE);
    }

    static void promise07_stateNoRoomByOneByte() {
        FolderRows x = some();
        x.room(0, 7);
        c.refused(x, "eight bytes", () -> x.write(0, 2, 0x0101010101010101L, 8), STATE);
        x.room(0, 8);
        c.due("with room for eight", x.write(0, 2, 0x0101010101010101L, 8), 3);
        c.refused(x, "one more", () -> x.write(0, 2, 5, 1), STATE);
        c.due("no byte", x.write(0, 2, 0, 0), 4);
    }

    static void promise07_stateNoRoomAtAll() {
        FolderRows x = some();
        x.room(0, 0);
        c.refused(x, "one byte", () -> x.write(0, 2, 5, 1), STATE);
        c.due("no byte", x.write(0, 2, 5, 0), 3);
    }

    static void promise07_roomForThosePiecesThatItHasNot() {
        FolderRows x = some();
        x.room(0, 4);
        c.due("two pieces", x.write(0, 2, 0x01030203L, 4), 3);
        c.due("the same the other way round", x.write(0, 2, 0x02030103L, 4), 4);
        c.due("one of them", x.write(0, 2, 0x0103, 2), 5);
        c.refused(x, "a new one", () -> x.write(0, 2, 0x01030403L, 4), STATE);
        c.refused(x, "a part of one is a new one", () -> x.write(0, 2, 0x01, 1), STATE);
        x.room(0, 5);
        c.due("eight times the same new one", x.write(0, 2, 0x0303030303030303L, 8), 6);
    }

    static void promise07_roomIsThatMachinesOwn() {
        FolderRows x = some();
        x.room(0, 0);
        x.send(0, 1);
        c.due("at 1", x.write(1, 2, 5, 1), 0);
        x.send(1, 0);
        c.refused(x, "a piece of another machine is not had", () -> x.write(0, 2, 5, 1), STATE);
    }

    static void promise07_full20Changes() {
        FolderRows x = fullOfChanges();
        c.refused(x, "write", () -> x.write(0, 2, 5, 1), FULL);
        c.refused(x, "write of no bytes", () -> x.write(0, 2, 5, 0), FULL);
        c.due("no piece came of it", x.pieces(0, 0, 0), 0);
    }

    static void promise07_badThenStateThenFull() {
        FolderRows x = fullOfChanges();
        c.refused(x, "BAD, STATE and FULL", () -> x.write(0, 1, 5, 9), BAD);
        c.refused(x, "no FILE, and FULL", () -> x.write(0, 1, 5, 1), STATE);
        x.room(0, 0);
        c.refused(x, "no ROOM, and FULL", () -> x.write(0, 2, 5, 1), STATE);
    }

    // ---- 8, 9 send, sendSome

    static void promise08_badToItself() {
        FolderRows x = some();
        c.refused(x, "0 to 0", () -> x.send(0, 0), BAD);
        c.refused(x, "1 to 1", () -> x.send(1, 1), BAD);
        x.machines(1);
        c.refused(x, "of one machine", () -> x.send(0, 0), BAD);
    }

    static void promise09_badToItself() {
        FolderRows x = some();
        c.refused(x, "0 to 0", () -> x.sendSome(0, 0, 1), BAD);
        c.refused(x, "1 to 1", () -> x.sendSome(1, 1, 20), BAD);
    }

    // ---- 10 change

    static void promise10_badNoSuchChange() {
        FolderRows x = fullOfChanges();
        c.due("the last of 20", x.change(0, 19, 0), 1);
        c.refused(x, "one behind", () -> x.change(0, 20, 0), BAD);
        c.refused(x, "of a machine with none", () -> x.change(1, 0, 0), BAD);
        x.send(0, 1);
        c.refused(x, "what was sent to it is not its own", () -> x.change(1, 0, 0), BAD);
    }

    // ---- 11 to 15 trees

    static void promise11_stateNotThereOf1To3NoneOf0() {
        FolderRows x = some();
        x.night();
        x.gone(0, 2);
        c.due("KIND", x.thing(0, 2, 1, 0), NONE);
        for (int w = 1; w <= 3; w++) {
            int what = w;
            c.refused(x, "gone, " + what, () -> x.thing(0, 2, 1, what), STATE);
            c.refused(x, "never made, " + what, () -> x.thing(0, 11, 1, what), STATE);
            c.refused(x, "not known there, " + what, () -> x.thing(1, 1, 0, what), STATE);
            c.holds("there on day 0, " + what, x.thing(0, 2, 0, what) >= 0);
        }
        x.apart(0, 1);
        c.refused(x, "left out", () -> x.thing(0, 2, 0, 1), STATE);
    }

    static void promise11_badThenState() {
        FolderRows x = some();
        c.refused(x, "what 4 of what is not there", () -> x.thing(0, 4, 0, 4), BAD);
        c.refused(x, "tomorrow, of what is not there", () -> x.thing(0, 4, 1, 1), BAD);
    }

    static void promise12_stateNoFileThatIsThere() {
        FolderRows x = some();
        c.refused(x, "the root", () -> x.bytes(0, 0, 0, -1), STATE);
        c.refused(x, "a folder", () -> x.bytes(0, 1, 0, -1), STATE);
        c.refused(x, "never made", () -> x.bytes(0, 4, 0, -1), STATE);
        x.write(0, 2, 5, 1);
        c.refused(x, "not known there", () -> x.bytes(1, 2, 0, -1), STATE);
        x.gone(0, 2);
        c.refused(x, "gone", () -> x.bytes(0, 2, 0, -1), STATE);
    }

    static void promise12_badThenStateThenBadOfRowAndByte() {
        FolderRows x = some();
        c.refused(x, "no such thing and no such row", () -> x.bytes(0, 12, 9, 9), BAD);
        c.refused(x, "a folder and no such row", () -> x.bytes(0, 1, 9, 9), STATE);
        c.refused(x, "a file without rows", () -> x.bytes(0, 2, 0, -1), BAD);
        x.write(0, 2, 0x0102, 2);
        c.refused(x, "no second row", () -> x.bytes(0, 2, 1, -1), BAD);
        c.refused(x, "no third byte", () -> x.bytes(0, 2, 0, 2), BAD);
        c.due("the second", x.bytes(0, 2, 0, 1), 2);
        x.write(0, 2, 0, 0);
        c.refused(x, "no byte of an empty row", () -> x.bytes(0, 2, 0, 0), BAD);
        c.due("whose length is told", x.bytes(0, 2, 0, -1), 0);
    }

    static void promise13_stateNotThereLeavesNoTrace() {
        FolderRows x = some();
        x.gone(0, 2);
        for (int k = 0; k <= 5; k++) {
            int kind = k;
            c.refused(x, "gone, as of " + kind, () -> x.bulk(kind, 0, 2), STATE);
            c.refused(x, "never made, as of " + kind, () -> x.bulk(kind, 0, 11), STATE);
            c.refused(x, "not known there, as of " + kind, () -> x.bulk(kind, 1, 1), STATE);
        }
        c.refused(x, "BAD then STATE", () -> x.bulk(6, 0, 2), BAD);
    }

    static void promise15_stateNoFolderThatIsThere() {
        FolderRows x = some();
        c.refused(x, "a file", () -> x.find(0, 2, 0), STATE);
        c.refused(x, "never made", () -> x.find(0, 11, 0), STATE);
        c.refused(x, "not known there", () -> x.find(1, 1, 0), STATE);
        c.due("an empty folder", x.find(0, 3, 0), NONE);
        x.gone(0, 3);
        c.refused(x, "gone", () -> x.find(0, 3, 0), STATE);
        c.refused(x, "BAD then STATE", () -> x.find(0, 3, 23), BAD);
    }

    // ---- 19 let

    static void promise19_stateItIsNotApart() {
        FolderRows x = some();
        c.refused(x, "never apart", () -> x.let(0), STATE);
        x.apart(0, 20);
        c.refused(x, "the other one is", () -> x.let(1), STATE);
        c.due("apart from 20 on is apart", x.let(0), 20);
        c.refused(x, "let already", () -> x.let(0), STATE);
        x.make(1, FILE, 0, 0);
        x.apart(0, 0);
        x.send(0, 1);
        x.make(1, FILE, 0, 0);
        c.refused(x, "left out for its ground is not apart", () -> x.let(1), STATE);
    }

    // ---- 21 to 24 pieces

    static void promise21_stateItHasMoreBytes() {
        FolderRows x = some();
        x.write(0, 2, 0x010203, 3);
        c.refused(x, "one less", () -> x.room(0, 2), STATE);
        c.refused(x, "none", () -> x.room(0, 0), STATE);
        c.due("just as many", x.room(0, 3), 20);
        c.due("the other has none", x.room(1, 0), 20);
        c.refused(x, "BAD then STATE", () -> x.room(0, -1), BAD);
    }

    static void promise22_stateOf2NoFileThatIsThere() {
        FolderRows x = some();
        c.refused(x, "the root", () -> x.pieces(0, 2, 0), STATE);
        c.refused(x, "a folder", () -> x.pieces(0, 2, 1), STATE);
        c.refused(x, "never made", () -> x.pieces(0, 2, 11), STATE);
        c.refused(x, "not known there", () -> x.pieces(1, 2, 2), STATE);
        c.due("a file without rows", x.pieces(0, 2, 2), 0);
        x.gone(0, 2);
        c.refused(x, "gone", () -> x.pieces(0, 2, 2), STATE);
        c.due("of 0 it is not looked at", x.pieces(0, 0, 2), 0);
        c.due("of 1 it is not looked at", x.pieces(0, 1, 2), 0);
    }

    static void promise23_stateNoFileThatIsThere() {
        FolderRows x = some();
        c.refused(x, "the root", () -> x.fetch(0, 0), STATE);
        c.refused(x, "a folder", () -> x.fetch(0, 1), STATE);
        c.refused(x, "never made", () -> x.fetch(0, 11), STATE);
        c.refused(x, "not known there", () -> x.fetch(1, 2), STATE);
        c.due("a file without rows", x.fetch(0, 2), 0);
        x.gone(0, 2);
        c.refused(x, "gone", () -> x.fetch(0, 2), STATE);
    }

    static void promise23_stateNoRoomByOneByte() {
        FolderRows x = some();
        x.write(0, 2, 0x01030203L, 4);
        x.send(0, 1);
        x.room(1, 3);
        c.refused(x, "room for one piece of two", () -> x.fetch(1, 2), STATE);
        x.room(1, 4);
        c.due("room for both", x.fetch(1, 2), 4);
        x.room(1, 4);
        c.due("with all of them it needs none", x.fetch(1, 2), 0);
    }

    // The last one of a piece is never let go, so no call brings about one that is nowhere.
    static void promise23_noPieceIsEverNowhere() {
        FolderRows x = new FolderRows();
        x.machines(3);
        x.make(0, FILE, 0, 0);
        x.write(0, 1, 0x01030203L, 4);
        x.send(0, 1);
        x.send(0, 2);
        for (int m = 0; m < 6; m++) {
            int last = m % 3;
            int next = (m + 1) % 3;
            c.refused(x, "away from the last, " + last, () -> x.away(last, 1), STATE);
            c.due("it comes to " + next, x.fetch(next, 1), 4);
            c.due("and goes from " + last, x.away(last, 1), 4);
        }
        x.write(0, 1, 0, 0);
        x.gone(0, 1);
        c.due("neither a write nor a gone takes one away", x.fetch(1, 1), 4);
    }

    static void promise23_fromSeveralMachinesAtOnce() {
        FolderRows x = new FolderRows();
        x.machines(4);
        x.make(0, FILE, 0, 0);
        for (int m = 1; m < 4; m++) {
            x.send(0, m);
        }
        for (int m = 0; m < 3; m++) {
            x.write(m, 1, 4 * m + 3, 1);
            x.send(m, 3);
        }
        c.due("three rows", x.thing(3, 1, 0, 3), 3);
        c.due("one piece of each machine", x.fetch(3, 1), 3);
    }

    static void promise24_stateNoFileThatIsThere() {
        FolderRows x = some();
        c.refused(x, "the root", () -> x.away(0, 0), STATE);
        c.refused(x, "a folder", () -> x.away(0, 1), STATE);
        c.refused(x, "never made", () -> x.away(0, 11), STATE);
        c.refused(x, "not known there", () -> x.away(1, 2), STATE);
        c.due("a file without rows", x.away(0, 2), 0);
        x.gone(0, 2);
        c.refused(x, "gone", () -> x.away(0, 2), STATE);
    }

    static void promise24_stateOneOfThemIsAtNoOtherMachine() {
        FolderRows x = new FolderRows();
        x.make(0, FILE, 0, 0);
        x.write(0, 1, 0x0103, 2);
        c.refused(x, "it is nowhere else", () -> x.away(0, 1), STATE);
        x.send(0, 1);
        c.refused(x, "to be known is not to be had", () -> x.away(0, 1), STATE);
        x.fetch(1, 1);
        x.write(0, 1, 0x01030203L, 4);
        c.refused(x, "one of two is nowhere else: neither goes", () -> x.away(0, 1), STATE);
        x.send(0, 1);
        x.fetch(1, 1);
        c.due("both are elsewhere", x.away(0, 1), 4);
        c.refused(x, "now they are nowhere else", () -> x.away(1, 1), STATE);
    }

    static void promise24_ofOneMachineAlone() {
        FolderRows x = new FolderRows();
        x.machines(1);
        x.make(0, FILE, 0, 0);
        c.due("no piece to go", x.away(0, 1), 0);
        x.write(0, 1, 5, 1);
        c.refused(x, "the last one", () -> x.away(0, 1), STATE);
    }

    // What stays because another FILE has it is not of those that go, so it refuses nothing.
    static void promise24_aLastPieceOfAnotherFileTooDoesNotRefuse() {
        FolderRows x = new FolderRows();
        x.make(0, FILE, 0, 0);
        x.make(0, FILE, 0, 1);
        x.write(0, 1, 0x01030203L, 4);
        x.send(0, 1);
        x.fetch(1, 1);
        x.write(0, 1, 0x01030503L, 4);
        x.write(0, 2, 0x0503, 2);
        c.due("5, 3 is the last of its kind and stays", x.away(0, 1), 2);
        c.due("with 2, 3 that no file holds", x.pieces(0, 1, 0), 4);
    }

    // ---- 25 to 29 days, shares

    static void promise25_stateBeyond29() {
        FolderRows x = some();
        for (int day = 1; day <= LAST_DAY; day++) {
            c.due("night", x.night(), day);
        }
        c.refused(x, "one more", x::night, STATE);
        c.refused(x, "and one more", x::night, STATE);
        x.machines(2);
        c.due("from day 0 on again", x.night(), 1);
    }

    static void promise26_fullBeyond20() {
        FolderRows x = some();
        for (int s = 0; s < 20; s++) {
            c.due("share " + s, x.share(s % 8, s % 12), s);
        }
        c.refused(x, "one more", () -> x.share(0, 0), FULL);
        c.refused(x, "BAD and FULL", () -> x.share(8, 0), BAD);
        c.refused(x, "BAD thing and FULL", () -> x.share(0, 12), BAD);
        x.take(19);
        c.refused(x, "one taken back keeps its number", () -> x.share(0, 0), FULL);
        x.machines(2);
        c.due("none is left", x.share(0, 0), 0);
    }

    static void promise27_stateItIsTakenAlready() {
        FolderRows x = some();
        x.share(0, 1);
        x.night();
        x.share(0, 1);
        c.due("take", x.take(0), 0);
        c.refused(x, "again that day", () -> x.take(0), STATE);
        x.night();
        c.refused(x, "again another day", () -> x.take(0), STATE);
        c.due("the other one holds still", x.take(1), 1);
    }

    static void promise27_badNoSuchShare() {
        FolderRows x = some();
        c.refused(x, "none yet", () -> x.take(0), BAD);
        x.share(0, 0);
        c.refused(x, "one behind", () -> x.take(1), BAD);
        x.machines(2);
        c.refused(x, "none any more", () -> x.take(0), BAD);
    }

    static void promise28_stateNotThereThatDay() {
        FolderRows x = some();
        x.share(0, 0);
        x.night();
        x.make(0, FILE, 0, 5);
        x.gone(0, 2);
        c.refused(x, "not yet there", () -> x.could(0, 0, 4, 0), STATE);
        c.due("there today", x.could(0, 0, 4, 1), 1);
        c.refused(x, "not there any more", () -> x.could(0, 0, 2, 1), STATE);
        c.due("there on day 0", x.could(0, 0, 2, 0), 1);
        c.refused(x, "not known at 1", () -> x.could(0, 1, 2, 0), STATE);
        c.refused(x, "without a share too", () -> x.could(5, 0, 11, 0), STATE);
        c.refused(x, "BAD then STATE", () -> x.could(8, 0, 11, 0), BAD);
        x.apart(0, 1);
        c.refused(x, "left out", () -> x.could(0, 0, 2, 0), STATE);
    }

    static void promise29_stateBeyond8Days() {
        FolderRows x = some();
        for (int day = 1; day < 8; day++) {
            x.night();
        }
        c.due("on 8 days", x.odd(0, 7, 1), 512);
        x.night();
        c.refused(x, "on 9", () -> x.odd(0, 0, 1), STATE);
        c.refused(x, "ways on 9", () -> x.odd(0, 0, 0), STATE);
        c.refused(x, "of a machine without changes too", () -> x.odd(1, 0, 0), STATE);
        c.refused(x, "BAD what, then STATE", () -> x.odd(0, 0, 2), BAD);
        c.refused(x, "BAD day, then STATE", () -> x.odd(0, 9, 0), BAD);
    }

    static void promise29_stateBeyond12Changes() {
        FolderRows x = some();
        for (int i = 3; i < 12; i++) {
            x.move(0, 2, 1, 2);
        }
        c.due("12", x.odd(0, 0, 0), 1);
        x.move(0, 2, 1, 2);
        c.refused(x, "13", () -> x.odd(0, 0, 0), STATE);
        c.refused(x, "13, all", () -> x.odd(0, 0, 1), STATE);
        x.send(0, 1);
        c.due("those sent to 1 are not its own", x.odd(1, 0, 1), 1);
    }
}
