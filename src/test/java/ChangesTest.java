/** Promises 1 to 10: a new object, machines, rules, and how changes are made and sent. */
public final class ChangesTest {
    private static final int BAD = FolderRows.BAD, STATE = FolderRows.STATE, FULL = FolderRows.FULL, NONE = FolderRows.NONE;
    private static final Checks c = new Checks();

    public static void main(String[] args) {
        newObject();
        machines();
        rules();
        make();
        makeApartIsOneThing();
        makeIntoWhatIsNoFolder();
        makeFull();
        move();
        moveIntoItself();
        gone();
        write();
        writeApartAndAgain();
        writeOfWhatIsGone();
        writeAndRoom();
        send();
        sendSome();
        allChanges();
        change();
        c.end();
    }

    private static void newObject() {
        c.promise(1, "a new object");
        FolderRows x = new FolderRows();
        c.due("count(0)", x.count(0), 2);
        c.due("count(1)", x.count(1), 0);
        c.due("count(2)", x.count(2), 0);
        c.due("count(3)", x.count(3), 0);
        c.due("count(4)", x.count(4), 0);
        c.due("count(5)", x.count(5), 0);
        c.due("trace()", x.trace(), 0);
        c.due("things(1, 0)", x.things(1, 0), 1);
        c.due("things(2, 0)", x.things(2, 0), BAD);
        c.due("thing(0, 0, 0, 0)", x.thing(0, 0, 0, 0), 2);
        c.due("room(0, 20)", x.room(0, 20), 20);
        c.due("let(0)", x.let(0), STATE);
    }

    private static void machines() {
        c.promise(2, "machines");
        FolderRows x = new FolderRows();
        c.due("machines(0)", x.machines(0), BAD);
        c.due("machines(5)", x.machines(5), BAD);
        c.due("machines(-1)", x.machines(-1), BAD);
        c.due("machines(4)", x.machines(4), 2);
        x.rules(3);
        x.make(3, 1, 0, 0);
        x.write(3, 1, 5, 1);
        x.bulk(1, 3, 1);
        x.room(3, 50);
        x.share(0, 1);
        x.apart(3, 1);
        x.night();
        c.due("machines(5)", x.machines(5), BAD);
        c.due("a refused call changes nothing", x.count(1), 2);
        c.due("machines(4)", x.machines(4), 4);
        c.due("no changes", x.count(1), 0);
        c.due("day 0", x.count(2), 0);
        c.due("no shares", x.count(3), 0);
        c.due("rules stay", x.count(4), 3);
        c.due("none left out", x.count(5), 0);
        c.due("none apart", x.let(3), STATE);
        c.due("no pieces", x.pieces(3, 0, 0), 0);
        c.due("no bytes", x.pieces(3, 1, 0), 0);
        c.due("room 20", x.room(3, 20), 20);
        c.due("the trace is not told to go", x.trace(), 11);
        c.due("nothing is kept of day 0", x.things(3, 0), 1);
        c.due("day 1 is not yet", x.things(3, 1), BAD);
        c.due("take(0)", x.take(0), BAD);
        c.due("numbers begin anew", x.make(3, 2, 0, 0), 1);
        c.due("changes begin anew", x.move(3, 1, 0, 1), 1);
        c.due("heights begin anew", x.change(3, 0, 2), 1);
        c.due("machines(1)", x.machines(1), 4);
        c.due("things(1, 0)", x.things(1, 0), BAD);
        c.due("things(0, 0)", x.things(0, 0), 1);
    }

    private static void rules() {
        c.promise(3, "rules");
        FolderRows x = new FolderRows();
        c.due("rules(4)", x.rules(4), BAD);
        c.due("rules(-1)", x.rules(-1), BAD);
        c.due("rules(3)", x.rules(3), 0);
        c.due("rules(4)", x.rules(4), BAD);
        c.due("rules(1)", x.rules(1), 3);
        c.due("rules(0)", x.rules(0), 1);
    }

    private static void make() {
        c.promise(4, "make");
        FolderRows x = new FolderRows();
        c.due("make(2, 1, 0, 0)", x.make(2, 1, 0, 0), BAD);
        c.due("make(-1, 1, 0, 0)", x.make(-1, 1, 0, 0), BAD);
        c.due("make(0, 0, 0, 0)", x.make(0, 0, 0, 0), BAD);
        c.due("make(0, 3, 0, 0)", x.make(0, 3, 0, 0), BAD);
        c.due("make(0, 1, -1, 0)", x.make(0, 1, -1, 0), BAD);
        c.due("make(0, 1, 12, 0)", x.make(0, 1, 12, 0), BAD);
        c.due("make(0, 1, 0, -1)", x.make(0, 1, 0, -1), BAD);
        c.due("make(0, 1, 0, 10)", x.make(0, 1, 0, 10), BAD);
        c.due("make(0, 1, 11, 0)", x.make(0, 1, 11, 0), STATE);
        c.due("nothing was made", x.count(1), 0);
        c.due("make(0, 1, 0, 9)", x.make(0, 1, 0, 9), 1);
        c.due("make(0, 1, 1, 0), in a file", x.make(0, 1, 1, 0), STATE);
        c.due("make(0, 2, 0, 0)", x.make(0, 2, 0, 0), 2);
        c.due("make(0, 1, 2, 0)", x.make(0, 1, 2, 0), 3);
        c.due("its folder", x.thing(0, 3, 0, 1), 2);
        c.due("its name", x.thing(0, 1, 0, 2), 9);
        c.due("without rows", x.thing(0, 1, 0, 3), 0);
        x.gone(0, 1);
        c.due("a number that is gone is not made again", x.make(0, 1, 0, 0), 4);
        c.due("make(0, 1, 1, 0), in what is gone", x.make(0, 1, 1, 0), STATE);
        c.due("the other machine knows none", x.make(1, 1, 0, 0), 1);
        x.apart(0, 0);
        c.due("left out numbers are not made again", x.make(0, 1, 0, 0), 5);
        c.due("folders left out are not there", x.make(0, 1, 2, 0), STATE);
    }

    private static void makeApartIsOneThing() {
        c.promise(4, "a number made by two machines");
        FolderRows x = new FolderRows();
        x.make(0, 2, 0, 3);
        x.make(1, 1, 0, 4);
        c.due("write at 1", x.write(1, 1, 7, 1), 1);
        c.due("thing(1, 1, 0, 0)", x.thing(1, 1, 0, 0), 1);
        x.send(0, 1);
        c.due("the first new tells", x.thing(1, 1, 0, 0), 2);
        c.due("its name too", x.thing(1, 1, 0, 2), 3);
        c.due("a write of no file does nothing", x.thing(1, 1, 0, 3), 0);
        c.due("the next number", x.make(1, 1, 1, 0), 2);

        x = new FolderRows();
        x.make(1, 1, 0, 0);
        x.send(1, 0);
        x.make(0, 1, 0, 1);
        x.gone(0, 2);
        x.write(1, 1, 7, 1);
        x.write(1, 1, 7, 1);
        c.due("make at 1 later in the order", x.make(1, 1, 0, 5), 2);
        x.send(0, 1);
        c.due("a second new of what is gone does nothing", x.thing(1, 2, 0, 0), NONE);
        x.apart(0, 0);
        c.due("but it tells where the first is left out", x.thing(1, 2, 0, 2), 5);
    }

    private static void makeIntoWhatIsNoFolder() {
        c.promise(4, "new in what is no folder any more");
        FolderRows x = new FolderRows();
        x.make(0, 2, 0, 0);
        x.send(0, 1);
        x.gone(0, 1);
        x.write(1, 1, 0, 0);
        x.make(1, 2, 0, 1);
        x.make(1, 1, 1, 4);
        x.send(0, 1);
        c.due("a folder that is gone: the root", x.thing(1, 3, 0, 1), 0);
        c.due("its name", x.thing(1, 3, 0, 2), 4);

        x = new FolderRows();
        x.make(0, 1, 0, 0);
        x.make(1, 2, 0, 1);
        x.make(1, 1, 1, 5);
        c.due("in the folder first", x.thing(1, 2, 0, 1), 1);
        x.send(0, 1);
        c.due("what became a file: the root", x.thing(1, 2, 0, 1), 0);
    }

    private static void makeFull() {
        c.promise(4, "make: FULL");
        FolderRows x = new FolderRows();
        for (int i = 1; i <= 11; i++) {
            c.due("make " + i, x.make(0, 2, 0, 0), i);
        }
        c.due("a twelfth", x.make(0, 2, 0, 0), FULL);
        c.due("BAD comes first", x.make(0, 2, 0, 10), BAD);
        x.gone(0, 11);
        c.due("STATE comes first", x.make(0, 2, 11, 0), STATE);
        c.due("still full", x.make(0, 2, 0, 0), FULL);

        x = new FolderRows();
        x.make(0, 1, 0, 0);
        for (int i = 1; i < 20; i++) {
            c.due("move " + i, x.move(0, 1, 0, 1), i);
        }
        c.due("make", x.make(0, 1, 0, 0), FULL);
        c.due("move", x.move(0, 1, 0, 1), FULL);
        c.due("gone", x.gone(0, 1), FULL);
        c.due("write", x.write(0, 1, 5, 1), FULL);
        c.due("no piece of a refused write", x.pieces(0, 0, 0), 0);
        c.due("gone: STATE comes first", x.gone(0, 2), STATE);
        c.due("move: STATE comes first", x.move(0, 1, 1, 1), STATE);
        c.due("write: STATE comes first", x.write(0, 2, 5, 1), STATE);
        x.room(0, 0);
        c.due("write: no room comes first", x.write(0, 1, 5, 1), STATE);
        c.due("20 changes", x.count(1), 20);
        c.due("others may go on", x.make(1, 1, 0, 0), 1);
    }

    private static void move() {
        c.promise(5, "move");
        FolderRows x = new FolderRows();
        x.make(0, 2, 0, 0);
        x.make(0, 1, 0, 1);
        c.due("move(2, 1, 0, 0)", x.move(2, 1, 0, 0), BAD);
        c.due("move(0, 12, 0, 0)", x.move(0, 12, 0, 0), BAD);
        c.due("move(0, -1, 0, 0)", x.move(0, -1, 0, 0), BAD);
        c.due("move(0, 1, 12, 0)", x.move(0, 1, 12, 0), BAD);
        c.due("move(0, 1, -1, 0)", x.move(0, 1, -1, 0), BAD);
        c.due("move(0, 2, 1, 10)", x.move(0, 2, 1, 10), BAD);
        c.due("move(0, 2, 1, -1)", x.move(0, 2, 1, -1), BAD);
        c.due("the root", x.move(0, 0, 1, 0), STATE);
        c.due("what is not there", x.move(0, 3, 1, 0), STATE);
        c.due("into what is not there", x.move(0, 1, 3, 0), STATE);
        c.due("into a file", x.move(0, 1, 2, 0), STATE);
        c.due("into itself", x.move(0, 1, 1, 0), STATE);
        c.due("nothing has changed", x.count(1), 2);
        c.due("move(0, 2, 1, 9)", x.move(0, 2, 1, 9), 2);
        c.due("its folder", x.thing(0, 2, 0, 1), 1);
        c.due("its name", x.thing(0, 2, 0, 2), 9);
        c.due("within the same folder", x.move(0, 2, 1, 0), 3);
        c.due("back", x.move(0, 2, 0, 5), 4);
        c.due("its folder", x.thing(0, 2, 0, 1), 0);
    }

    private static void moveIntoItself() {
        c.promise(5, "folders that would come into themselves");
        FolderRows x = new FolderRows();
        x.make(0, 2, 0, 1);
        x.make(0, 2, 1, 2);
        x.make(0, 2, 2, 3);
        c.due("over two", x.move(0, 1, 3, 0), STATE);
        c.due("over one", x.move(0, 1, 2, 0), STATE);
        c.due("up is fine", x.move(0, 3, 1, 0), 3);

        x = new FolderRows();
        x.machines(3);
        for (int i = 1; i <= 3; i++) {
            x.make(0, 2, 0, i);
        }
        x.send(0, 1);
        x.send(0, 2);
        x.move(0, 1, 2, 0);
        x.move(1, 2, 3, 0);
        x.move(2, 3, 1, 0);
        x.send(2, 1);
        x.send(1, 0);
        x.send(0, 2);
        c.due("1 in 2", x.thing(2, 1, 0, 1), 2);
        c.due("2 in 3", x.thing(2, 2, 0, 1), 3);
        c.due("3 would come into itself", x.thing(2, 3, 0, 1), 0);
        c.due("its old name stays", x.thing(2, 3, 0, 2), 3);
        x.send(2, 1);
        c.due("the same at 1", x.sum(1, 0), x.sum(2, 0));

        x = new FolderRows();
        x.make(0, 2, 0, 1);
        x.make(0, 1, 0, 2);
        x.send(0, 1);
        x.gone(0, 1);
        x.move(1, 2, 1, 7);
        x.send(0, 1);
        c.due("a move into what is gone does nothing", x.thing(1, 2, 0, 1), 0);
        c.due("nor does it name", x.thing(1, 2, 0, 2), 2);
    }

    private static void gone() {
        c.promise(6, "gone");
        FolderRows x = new FolderRows();
        x.make(0, 2, 0, 0);
        x.make(0, 2, 1, 0);
        x.make(0, 1, 2, 0);
        x.make(0, 1, 0, 1);
        c.due("gone(2, 1)", x.gone(2, 1), BAD);
        c.due("gone(0, 12)", x.gone(0, 12), BAD);
        c.due("gone(0, -1)", x.gone(0, -1), BAD);
        c.due("the root", x.gone(0, 0), STATE);
        c.due("not there", x.gone(0, 5), STATE);
        c.due("gone(0, 1)", x.gone(0, 1), 4);
        c.due("all in it", x.things(0, 0), 2);
        c.due("over two", x.thing(0, 3, 0, 0), NONE);
        c.due("not those beside it", x.thing(0, 4, 0, 0), 1);
        c.due("again", x.gone(0, 1), STATE);
        c.due("what lay in it", x.gone(0, 3), STATE);
        c.due("gone(0, 4)", x.gone(0, 4), 5);

        x = new FolderRows();
        x.make(0, 2, 0, 0);
        x.make(0, 1, 0, 1);
        x.send(0, 1);
        x.move(0, 2, 1, 0);
        x.gone(1, 1);
        x.send(0, 1);
        c.due("what was moved in first goes with it", x.thing(1, 2, 0, 0), NONE);
        x = new FolderRows();
        x.make(0, 2, 0, 0);
        x.make(0, 1, 1, 1);
        x.send(0, 1);
        x.move(0, 2, 0, 0);
        x.gone(1, 1);
        x.send(0, 1);
        c.due("what was moved out first stays", x.thing(1, 2, 0, 0), 1);
    }

    private static void write() {
        c.promise(7, "write");
        FolderRows x = new FolderRows();
        x.make(0, 1, 0, 0);
        x.make(0, 2, 0, 1);
        c.due("write(2, 1, 0, 1)", x.write(2, 1, 0, 1), BAD);
        c.due("write(0, 12, 0, 1)", x.write(0, 12, 0, 1), BAD);
        c.due("write(0, -1, 0, 1)", x.write(0, -1, 0, 1), BAD);
        c.due("write(0, 1, 0, -1)", x.write(0, 1, 0, -1), BAD);
        c.due("write(0, 1, 0, 9)", x.write(0, 1, 0, 9), BAD);
        c.due("a folder", x.write(0, 2, 0, 1), STATE);
        c.due("the root", x.write(0, 0, 0, 1), STATE);
        c.due("not there", x.write(0, 3, 0, 1), STATE);
        c.due("no change yet", x.count(1), 2);
        c.due("eight bytes", x.write(0, 1, 0xFF01020304050607L, 8), 2);
        c.due("the highest first", x.bytes(0, 1, 0, 0), 255);
        c.due("the lowest last", x.bytes(0, 1, 0, 7), 7);
        c.due("low bytes alone", x.write(0, 1, -2L, 1), 3);
        c.due("one byte", x.bytes(0, 1, 0, -1), 1);
        c.due("that is 254", x.bytes(0, 1, 0, 0), 254);
        c.due("no byte", x.write(0, 1, 99, 0), 4);
        c.due("a row all the same", x.thing(0, 1, 0, 3), 1);
        c.due("of no bytes", x.bytes(0, 1, 0, -1), 0);
        x.gone(0, 1);
        c.due("gone", x.write(0, 1, 0, 1), STATE);
        x.rules(1);
        c.due("gone, by rule 1 too", x.write(0, 1, 0, 1), STATE);
    }

    private static void writeApartAndAgain() {
        c.promise(7, "rows beside one another and in place");
        FolderRows x = new FolderRows();
        x.machines(4);
        x.make(0, 1, 0, 0);
        for (int m = 1; m < 4; m++) {
            x.send(0, m);
        }
        for (int m = 0; m < 4; m++) {
            x.write(m, 1, 10 + m, 1);
        }
        x.send(1, 0);
        x.send(2, 0);
        c.due("three ways", x.thing(0, 1, 0, 3), 3);
        c.due("in the order of machines", x.bytes(0, 1, 1, 0), 11);
        x.write(0, 1, 20, 1);
        c.due("in place of all three", x.thing(0, 1, 0, 3), 1);
        x.send(3, 0);
        c.due("beside the fourth", x.thing(0, 1, 0, 3), 2);
        c.due("the fourth is lower", x.bytes(0, 1, 0, 0), 13);
        c.due("the new one behind it", x.bytes(0, 1, 1, 0), 20);
        c.due("its own row again", x.write(3, 1, 30, 1), 1);
        x.send(3, 0);
        c.due("of the same machine one row alone", x.thing(0, 1, 0, 3), 2);
        c.due("higher, so behind", x.bytes(0, 1, 0, 0), 20);
    }

    private static void writeOfWhatIsGone() {
        c.promise(7, "a write of what is gone");
        FolderRows x = new FolderRows();
        x.make(0, 2, 0, 1);
        x.make(0, 1, 1, 2);
        x.write(0, 2, 5, 1);
        x.send(0, 1);
        x.gone(0, 2);
        x.write(1, 2, 6, 1);
        x.send(1, 0);
        c.due("by rule 0 nothing", x.thing(0, 2, 0, 0), NONE);
        x.rules(1);
        c.due("by rule 1 it comes back", x.thing(0, 2, 0, 0), 1);
        c.due("into its folder", x.thing(0, 2, 0, 1), 1);
        c.due("by its name", x.thing(0, 2, 0, 2), 2);
        c.due("with the row in place", x.thing(0, 2, 0, 3), 1);
        c.due("the new one", x.bytes(0, 2, 0, 0), 6);

        x = new FolderRows();
        x.machines(3);
        x.make(0, 1, 0, 2);
        x.send(0, 1);
        x.send(0, 2);
        x.write(0, 1, 5, 1);
        x.gone(0, 1);
        x.write(1, 1, 6, 1);
        x.write(2, 1, 8, 1);
        x.write(2, 1, 7, 1);
        x.send(1, 0);
        x.send(2, 0);
        c.due("gone without rule 1", x.things(0, 0), 1);
        x.rules(1);
        c.due("back with the rows that it held", x.thing(0, 1, 0, 3), 3);
        c.due("a clash", x.thing(0, 1, 0, 0), 5);
        c.due("first", x.bytes(0, 1, 0, 0), 5);
        c.due("second", x.bytes(0, 1, 1, 0), 6);
        c.due("third", x.bytes(0, 1, 2, 0), 7);

        x = new FolderRows();
        x.make(0, 2, 0, 1);
        x.make(0, 2, 1, 1);
        x.make(0, 1, 2, 2);
        x.send(0, 1);
        x.gone(0, 2);
        x.write(1, 3, 6, 1);
        x.send(0, 1);
        x.rules(1);
        c.due("its folder is gone, though that one's is not: the root", x.thing(1, 3, 0, 1), 0);
        c.due("folders do not come back", x.thing(1, 2, 0, 0), NONE);
        x.gone(1, 3);
        x.rules(0);
        c.due("by rule 0 it is gone as ever", x.thing(1, 3, 0, 0), NONE);
    }

    private static void writeAndRoom() {
        c.promise(7, "no room");
        FolderRows x = new FolderRows();
        x.make(0, 1, 0, 0);
        x.room(0, 3);
        c.due("4 bytes", x.write(0, 1, 0x01010101, 4), STATE);
        c.due("3 bytes", x.write(0, 1, 0x010101, 3), 1);
        c.due("the same again needs none", x.write(0, 1, 0x010101, 3), 2);
        c.due("one more", x.write(0, 1, 0x02, 1), STATE);
        c.due("no byte at all", x.write(0, 1, 0, 0), 3);
        c.due("a piece is kept when the row is not", x.pieces(0, 1, 0), 3);
        x.room(0, 4);
        c.due("the same piece twice needs room once", x.write(0, 1, 0x0303, 2), 4);
    }

    private static void send() {
        c.promise(8, "send");
        FolderRows x = new FolderRows();
        x.machines(3);
        c.due("send(0, 0)", x.send(0, 0), BAD);
        c.due("send(0, 3)", x.send(0, 3), BAD);
        c.due("send(3, 0)", x.send(3, 0), BAD);
        c.due("send(-1, 0)", x.send(-1, 0), BAD);
        c.due("nothing to send", x.send(0, 1), 0);
        x.make(0, 1, 0, 0);
        x.make(1, 1, 0, 0);
        x.make(1, 1, 0, 1);
        c.due("send(1, 0)", x.send(1, 0), 2);
        c.due("again", x.send(1, 0), 0);
        c.due("all that it knows", x.send(0, 2), 3);
        c.due("no pieces come with it", x.pieces(2, 0, 0), 0);
        c.due("the sender learns nothing", x.differ(0, 1), 1);
        c.due("differ(0, 2)", x.differ(0, 2), 0);
        x.apart(0, 0);
        x.make(0, 1, 0, 5);
        c.due("left out ones come too", x.send(0, 2), 1);
    }

    private static void sendSome() {
        c.promise(9, "sendSome");
        FolderRows x = new FolderRows();
        x.machines(3);
        c.due("to itself", x.sendSome(0, 0, 1), BAD);
        c.due("k 0", x.sendSome(0, 1, 0), BAD);
        c.due("k 21", x.sendSome(0, 1, 21), BAD);
        c.due("machine 3", x.sendSome(0, 3, 1), BAD);
        c.due("machine -1", x.sendSome(-1, 0, 1), BAD);
        c.due("none", x.sendSome(0, 1, 20), 0);
        x.make(0, 1, 0, 0);
        x.make(0, 1, 0, 1);
        x.make(1, 1, 0, 2);
        x.make(1, 1, 0, 3);
        x.send(1, 0);
        c.due("two", x.sendSome(0, 2, 2), 2);
        c.due("the first of both by height: of 0", x.things(2, 0), 2);
        c.due("differ from 1", x.differ(2, 1), 2);
        c.due("two more, one ahead of the other", x.sendSome(0, 2, 2), 2);
        c.due("all", x.differ(2, 0), 0);
        c.due("no more", x.sendSome(0, 2, 20), 0);
        x.gone(2, 1);
        x.gone(2, 2);
        c.due("one alone", x.sendSome(2, 0, 1), 1);
        c.due("one is left", x.differ(2, 0), 1);

        x = new FolderRows();
        x.make(0, 1, 0, 0);
        for (int i = 1; i < 20; i++) {
            x.move(0, 1, 0, i % 10);
        }
        c.due("a chain comes as one", x.sendSome(0, 1, 19), 19);
        c.due("and its end", x.sendSome(0, 1, 20), 1);
    }

    private static void allChanges() {
        c.promise(8, "as many changes as there can be");
        FolderRows x = new FolderRows();
        x.machines(4);
        x.make(0, 1, 0, 0);
        for (int m = 1; m < 4; m++) {
            x.send(0, m);
        }
        for (int m = 0; m < 4; m++) {
            for (int i = m == 0 ? 1 : 0; i < 20; i++) {
                c.due("write " + i + " at " + m, x.write(m, 1, m, 1), i);
            }
        }
        c.due("80 changes", x.count(1), 80);
        c.due("some of the first", x.sendSome(1, 0, 20), 20);
        c.due("the second's", x.send(2, 0), 20);
        c.due("and the third's", x.send(3, 0), 20);
        c.due("four ways", x.thing(0, 1, 0, 3), 4);
        c.due("which end alike but for 0, a step ahead", x.bytes(0, 1, 0, 0), 0);
        c.due("the last", x.bytes(0, 1, 3, 0), 3);
        c.due("height of 0", x.change(0, 19, 2), 20);
        c.due("height of 3", x.change(3, 19, 2), 21);
        c.due("full", x.make(0, 1, 0, 0), FULL);
        x.apart(0, 0);
        c.due("all on the first", x.count(5), 80);
        c.due("known at 1", x.taken(1), 21);
        x.machines(4);
        c.due("none any more", x.count(1), 0);
        c.due("nor left out", x.count(5), 0);
    }

    private static void change() {
        c.promise(10, "change");
        FolderRows x = new FolderRows();
        c.due("none yet", x.change(0, 0, 0), BAD);
        x.make(0, 2, 0, 0);
        x.make(0, 1, 0, 1);
        x.move(0, 2, 1, 1);
        x.night();
        x.send(0, 1);
        x.write(1, 2, 5, 1);
        x.gone(1, 2);
        x.move(0, 2, 0, 3);
        c.due("NEW", x.change(0, 0, 0), 0);
        c.due("MOVE", x.change(0, 2, 0), 1);
        c.due("GONE", x.change(1, 1, 0), 2);
        c.due("WRITE", x.change(1, 0, 0), 3);
        c.due("its thing", x.change(1, 1, 1), 2);
        c.due("height of the first", x.change(0, 0, 2), 1);
        c.due("height", x.change(1, 1, 2), 5);
        c.due("height beside it", x.change(0, 3, 2), 4);
        c.due("no ground", x.change(0, 0, 3), 0);
        c.due("ground", x.change(1, 1, 3), 4);
        c.due("ground of 0", x.change(0, 3, 3), 3);
        c.due("day 0", x.change(0, 2, 4), 0);
        c.due("day 1", x.change(1, 0, 4), 1);
        c.due("not left out", x.change(1, 0, 5), 0);
        x.apart(0, 2);
        c.due("left out", x.change(0, 2, 5), 1);
        c.due("with what stands on it", x.change(1, 0, 5), 1);
        c.due("not what is ahead", x.change(0, 1, 5), 0);
        c.due("what 6", x.change(0, 0, 6), BAD);
        c.due("what -1", x.change(0, 0, -1), BAD);
        c.due("no such change", x.change(0, 4, 0), BAD);
        c.due("change -1", x.change(0, -1, 0), BAD);
        c.due("machine 2", x.change(2, 0, 0), BAD);
    }
}
