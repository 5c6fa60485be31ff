/** Promises 21 to 24: room, pieces, fetch and away. */
public final class PiecesTest {
    private static final int BAD = FolderRows.BAD, STATE = FolderRows.STATE;
    private static final Checks c = new Checks();

    public static void main(String[] args) {
        room();
        pieces();
        cuts();
        fetch();
        fetchRefused();
        away();
        awayRefused();
        manyPieces();
        c.end();
    }

    private static void room() {
        c.promise(21, "room");
        FolderRows x = new FolderRows();
        c.due("machine 2", x.room(2, 5), BAD);
        c.due("machine -1", x.room(-1, 5), BAD);
        c.due("-1", x.room(0, -1), BAD);
        c.due("201", x.room(0, 201), BAD);
        c.due("200", x.room(0, 200), 20);
        c.due("0", x.room(0, 0), 200);
        c.due("of each its own", x.room(1, 7), 20);
        x.room(0, 9);
        x.make(0, 1, 0, 0);
        x.write(0, 1, 0x0101010101L, 5);
        c.due("less than it has", x.room(0, 4), STATE);
        c.due("as much as it has", x.room(0, 5), 9);
        c.due("refused ones change nothing", x.room(0, 5), 5);
    }

    private static void pieces() {
        c.promise(22, "pieces");
        FolderRows x = new FolderRows();
        x.make(0, 1, 0, 0);
        x.make(0, 2, 0, 1);
        x.send(0, 1);
        x.write(0, 1, 0x0103, 2);
        c.due("machine 2", x.pieces(2, 0, 0), BAD);
        c.due("what 3", x.pieces(0, 3, 1), BAD);
        c.due("what -1", x.pieces(0, -1, 1), BAD);
        c.due("thing 12 of 2", x.pieces(0, 2, 12), BAD);
        c.due("thing -1 of 2", x.pieces(0, 2, -1), BAD);
        c.due("thing 12 of 0", x.pieces(0, 0, 12), 1);
        c.due("thing -1 of 1", x.pieces(0, 1, -1), 2);
        c.due("a folder", x.pieces(0, 2, 2), STATE);
        c.due("not there", x.pieces(0, 2, 3), STATE);
        c.due("none lacks", x.pieces(0, 2, 1), 0);
        c.due("not known there yet", x.pieces(1, 2, 1), 0);
        x.send(0, 1);
        c.due("one lacks", x.pieces(1, 2, 1), 1);
        x.write(1, 1, 0x0203070703L, 5);
        c.due("each once", x.pieces(1, 0, 0), 3);
        c.due("their bytes", x.pieces(1, 1, 0), 4);
        x.send(1, 0);
        c.due("lacking, each once", x.pieces(0, 2, 1), 3);
        c.due("old pieces stay", x.pieces(0, 0, 0), 1);
    }

    private static void cuts() {
        c.promise(22, "how rows are cut");
        FolderRows x = new FolderRows();
        x.make(0, 1, 0, 0);
        x.write(0, 1, 0xFF030B0100L, 5);
        c.due("behind 255, 3, 11 and the last", x.pieces(0, 0, 0), 4);
        c.due("bytes", x.pieces(0, 1, 0), 5);
        x.write(0, 1, 0x00, 1);
        c.due("a zero is no empty piece", x.pieces(0, 0, 0), 5);
        x.write(0, 1, 0x0000, 2);
        c.due("nor are two zeros one", x.pieces(0, 0, 0), 6);
        x.write(0, 1, 0x0003, 2);
        c.due("a leading zero counts", x.pieces(0, 0, 0), 7);
        x.write(0, 1, 0, 0);
        c.due("an empty row has none", x.pieces(0, 0, 0), 7);
        c.due("and lacks none", x.pieces(0, 2, 1), 0);
        x.write(0, 1, 0x0303030303030303L, 8);
        c.due("eight alike are one, had already", x.pieces(0, 0, 0), 7);
        x.gone(0, 1);
        c.due("pieces stay when the file is gone", x.pieces(0, 0, 0), 7);
    }

    private static void fetch() {
        c.promise(23, "fetch");
        FolderRows x = new FolderRows();
        x.machines(4);
        x.make(0, 1, 0, 0);
        x.make(0, 2, 0, 0);
        x.send(0, 1);
        x.send(0, 2);
        x.write(0, 1, 0x0103, 2);
        x.write(1, 1, 0x0203, 2);
        x.write(2, 1, 0x010304, 3);
        x.send(0, 2);
        x.send(1, 2);
        c.due("machine 4", x.fetch(4, 1), BAD);
        c.due("thing 12", x.fetch(0, 12), BAD);
        c.due("thing -1", x.fetch(0, -1), BAD);
        c.due("a folder", x.fetch(0, 2), STATE);
        c.due("not there", x.fetch(3, 1), STATE);
        c.due("as it is known there: all that is lacking", x.fetch(2, 1), 2);
        c.due("again", x.fetch(2, 1), 0);
        c.due("lacks none", x.pieces(2, 2, 1), 0);
        c.due("its pieces", x.pieces(2, 0, 0), 3);
        c.due("others keep theirs", x.pieces(1, 0, 0), 1);
        x.send(2, 3);
        c.due("from several machines", x.fetch(3, 1), 5);
        c.due("as it is known at 0: its own row", x.fetch(0, 1), 0);
    }

    private static void fetchRefused() {
        c.promise(23, "fetch refused");
        FolderRows x = new FolderRows();
        x.machines(3);
        x.make(0, 1, 0, 0);
        x.write(0, 1, 0x0103020704L, 5);
        x.send(0, 1);
        x.send(0, 2);
        x.room(1, 4);
        c.due("no room", x.fetch(1, 1), STATE);
        c.due("nothing came", x.pieces(1, 0, 0), 0);
        x.room(1, 5);
        c.due("just room", x.fetch(1, 1), 5);
        c.due("all goes at 0", x.away(0, 1), 5);
        c.due("the last one never", x.away(1, 1), STATE);
        c.due("it comes from 1", x.fetch(2, 1), 5);
        x.machines(2);
        x.make(0, 1, 0, 0);
        x.write(0, 1, 1, 1);
        x.send(0, 1);
        x.apart(0, 1);
        c.due("rows left out are not fetched", x.fetch(1, 1), 0);
        x.let(0);
        c.due("and then they are", x.fetch(1, 1), 1);

        x = new FolderRows();
        x.machines(4);
        x.make(0, 1, 0, 0);
        x.make(0, 1, 0, 1);
        x.write(0, 1, 0x0103, 2);
        x.write(0, 2, 0x0203, 2);
        x.send(0, 3);
        c.due("from the one that has it", x.fetch(3, 1), 2);
        c.due("the first is nowhere else, the last is", x.write(0, 1, 0x02030103L, 4), 4);
        x.gone(0, 2);
        c.due("so neither goes", x.away(0, 1), STATE);
        c.due("both are kept", x.pieces(0, 0, 0), 2);
    }

    private static void away() {
        c.promise(24, "away");
        FolderRows x = new FolderRows();
        x.make(0, 1, 0, 0);
        x.make(0, 1, 0, 1);
        x.make(0, 2, 0, 2);
        x.write(0, 1, 0x01030203L, 4);
        x.write(0, 2, 0x020304L, 3);
        x.send(0, 1);
        c.due("machine 2", x.away(2, 1), BAD);
        c.due("thing 12", x.away(0, 12), BAD);
        c.due("thing -1", x.away(0, -1), BAD);
        c.due("a folder", x.away(0, 3), STATE);
        c.due("not there", x.away(0, 4), STATE);
        c.due("none to go", x.away(1, 1), 0);
        x.fetch(1, 1);
        c.due("what another file has stays", x.away(0, 1), 2);
        c.due("pieces", x.pieces(0, 0, 0), 2);
        c.due("one lacks", x.pieces(0, 2, 1), 1);
        c.due("none of the other lacks", x.pieces(0, 2, 2), 0);
        x.gone(0, 2);
        c.due("no other file of its tree has it now", x.away(0, 1), 2);
        c.due("what no file has stays", x.pieces(0, 1, 0), 1);
    }

    private static void awayRefused() {
        c.promise(24, "away refused");
        FolderRows x = new FolderRows();
        x.machines(3);
        x.make(0, 1, 0, 0);
        x.write(0, 1, 0x0103, 2);
        x.send(0, 1);
        x.fetch(1, 1);
        x.write(0, 1, 0x010307L, 3);
        c.due("one of them is nowhere else", x.away(0, 1), STATE);
        c.due("nothing goes", x.pieces(0, 0, 0), 2);
        x.send(0, 2);
        x.fetch(2, 1);
        c.due("now it is", x.away(0, 1), 3);
        c.due("nothing stays", x.pieces(0, 1, 0), 0);
        c.due("at 1 by its own tree", x.away(1, 1), 2);
        c.due("at 2 the last ones stay", x.away(2, 1), STATE);

        x = new FolderRows();
        x.make(0, 1, 0, 0);
        x.make(0, 1, 0, 1);
        x.write(0, 1, 5, 1);
        x.write(0, 2, 5, 1);
        c.due("a last one that another file has is not to go", x.away(0, 1), 0);
        c.due("it is kept", x.pieces(0, 0, 0), 1);
    }

    private static void manyPieces() {
        c.promise(22, "as many pieces as there can be");
        FolderRows x = new FolderRows();
        x.machines(4);
        for (int m = 0; m < 4; m++) {
            x.room(m, 200);
        }
        for (int t = 1; t <= 4; t++) {
            x.make(0, 1, 0, t);
        }
        for (int i = 0; i < 8; i++) {
            long bytes = 0;
            for (int b = 0; b < 8; b++) {
                bytes = (bytes << 8) | ((i * 8 + b) * 4 + 3);
            }
            c.due("write " + i, x.write(0, 1 + i % 4, bytes, 8), 4 + i);
        }
        c.due("64 pieces", x.pieces(0, 0, 0), 64);
        c.due("64 bytes", x.pieces(0, 1, 0), 64);
        x.send(0, 1);
        for (int t = 1; t <= 4; t++) {
            c.due("fetch " + t, x.fetch(1, t), 8);
        }
        for (int t = 1; t <= 4; t++) {
            c.due("away " + t, x.away(0, t), 8);
        }
        c.due("32 stay, of rows that none holds", x.pieces(0, 0, 0), 32);
        c.due("room for them", x.room(0, 32), 200);
    }
}
