/** Promises 11 to 20: what trees tell, and machines set apart. */
public final class TreesTest {
    private static final int BAD = FolderRows.BAD, STATE = FolderRows.STATE, NONE = FolderRows.NONE;
    private static final Checks c = new Checks();

    public static void main(String[] args) {
        thing();
        names();
        namesOfSeveral();
        namesAcrossMachines();
        bytes();
        bulk();
        things();
        find();
        sum();
        differ();
        sameRowsSameTree();
        apart();
        apartAgainAndAgain();
        let();
        taken();
        c.end();
    }

    private static void thing() {
        c.promise(11, "thing");
        FolderRows x = new FolderRows();
        x.make(0, 2, 0, 4);
        x.make(0, 1, 1, 5);
        x.send(0, 1);
        x.write(0, 2, 1, 1);
        x.write(1, 2, 2, 1);
        x.send(1, 0);
        c.due("folder", x.thing(0, 1, 0, 0), 2);
        c.due("clash", x.thing(0, 2, 0, 0), 5);
        c.due("one row", x.thing(1, 2, 0, 0), 1);
        c.due("not there", x.thing(0, 3, 0, 0), NONE);
        c.due("folder of it", x.thing(0, 2, 0, 1), 1);
        c.due("name of it", x.thing(0, 2, 0, 2), 5);
        c.due("ways", x.thing(0, 2, 0, 3), 2);
        c.due("ways of a folder", x.thing(0, 1, 0, 3), 0);
        c.due("the root's folder", x.thing(0, 0, 0, 1), NONE);
        c.due("the root's name", x.thing(0, 0, 0, 2), 0);
        c.due("the root's ways", x.thing(0, 0, 0, 3), 0);
        c.due("1 of what is not there", x.thing(0, 3, 0, 1), STATE);
        c.due("2 of what is not there", x.thing(0, 11, 0, 2), STATE);
        c.due("3 of what is not there", x.thing(0, 3, 0, 3), STATE);
        c.due("what 4", x.thing(0, 0, 0, 4), BAD);
        c.due("what -1", x.thing(0, 0, 0, -1), BAD);
        c.due("thing 12", x.thing(0, 12, 0, 0), BAD);
        c.due("thing -1", x.thing(0, -1, 0, 0), BAD);
        c.due("machine 2", x.thing(2, 0, 0, 0), BAD);
        c.due("day 1", x.thing(0, 0, 1, 0), BAD);
        c.due("day -1", x.thing(0, 0, -1, 0), BAD);
        x.night();
        x.gone(0, 1);
        c.due("as of day 0", x.thing(0, 2, 0, 3), 2);
        c.due("today", x.thing(0, 2, 1, 0), NONE);
        x.night();
        x.send(0, 1);
        c.due("machine 1 as of day 1", x.thing(1, 2, 1, 0), 1);
        c.due("machine 1 today", x.thing(1, 2, 2, 0), NONE);
    }

    private static void names() {
        c.promise(11, "names that would be alike");
        FolderRows x = new FolderRows();
        x.make(0, 1, 0, 3);
        x.make(0, 1, 0, 3);
        x.make(0, 1, 0, 3);
        c.due("the latest has it", x.thing(0, 3, 0, 2), 3);
        c.due("the one ahead", x.thing(0, 2, 0, 2), 10);
        c.due("the first", x.thing(0, 1, 0, 2), 11);
        x.rules(2);
        c.due("rule 2: the earliest has it", x.thing(0, 1, 0, 2), 3);
        c.due("rule 2: the next", x.thing(0, 2, 0, 2), 10);
        c.due("rule 2: the last", x.thing(0, 3, 0, 2), 11);
        x.rules(1);
        c.due("rule 1 has no say in it", x.thing(0, 3, 0, 2), 3);
        x.rules(3);
        c.due("rules 1 and 2: the earliest", x.thing(0, 1, 0, 2), 3);
        x.rules(0);
        x.move(0, 1, 0, 3);
        c.due("a move makes it latest", x.thing(0, 1, 0, 2), 3);
        c.due("the others behind it", x.thing(0, 3, 0, 2), 10);
        c.due("and so on", x.thing(0, 2, 0, 2), 11);
        x.write(0, 2, 9, 1);
        c.due("a write does not", x.thing(0, 2, 0, 2), 11);
        x.rules(2);
        c.due("rule 2 looks at moves too", x.thing(0, 1, 0, 2), 11);
        x.rules(0);
        x.gone(0, 1);
        c.due("what is gone has no name", x.thing(0, 3, 0, 2), 3);
    }

    private static void namesOfSeveral() {
        c.promise(11, "several names alike in one folder");
        FolderRows x = new FolderRows();
        x.make(0, 1, 0, 1);
        x.make(0, 1, 0, 7);
        x.make(0, 1, 0, 1);
        x.make(0, 1, 0, 7);
        x.make(0, 2, 0, 0);
        x.make(0, 1, 5, 1);
        c.due("1 has not its name", x.thing(0, 1, 0, 2), 11);
        c.due("2 is later than 1", x.thing(0, 2, 0, 2), 10);
        c.due("3 has 1", x.thing(0, 3, 0, 2), 1);
        c.due("4 has 7", x.thing(0, 4, 0, 2), 7);
        c.due("another folder does not count", x.thing(0, 6, 0, 2), 1);
        x.rules(2);
        c.due("rule 2: 3 comes ahead of 4", x.thing(0, 3, 0, 2), 10);
        c.due("rule 2: 4", x.thing(0, 4, 0, 2), 11);

        x = new FolderRows();
        for (int i = 0; i < 11; i++) {
            x.make(0, 1, 0, 0);
        }
        c.due("eleven alike: the last", x.thing(0, 11, 0, 2), 0);
        c.due("eleven alike: the first", x.thing(0, 1, 0, 2), 19);
    }

    private static void namesAcrossMachines() {
        c.promise(11, "names by a move that did nothing");
        FolderRows x = new FolderRows();
        x.make(0, 2, 0, 1);
        x.make(0, 1, 0, 3);
        x.make(0, 1, 0, 3);
        x.send(0, 1);
        x.gone(0, 1);
        x.move(1, 2, 1, 3);
        x.send(0, 1);
        c.due("a move that did nothing does not count", x.thing(1, 2, 0, 2), 10);
        c.due("the latest that did", x.thing(1, 3, 0, 2), 3);

        x = new FolderRows();
        x.make(0, 1, 0, 3);
        x.send(0, 1);
        x.make(0, 1, 0, 8);
        x.make(1, 1, 0, 8);
        x.send(0, 1);
        x.send(1, 0);
        c.due("one thing of two news", x.things(0, 0), 3);
        c.due("its name is its own", x.thing(0, 2, 0, 2), 8);
        x.make(0, 1, 0, 8);
        c.due("the one ahead", x.thing(0, 2, 0, 2), 10);

        x = new FolderRows();
        x.make(0, 1, 0, 0);
        x.make(0, 1, 0, 1);
        x.send(0, 1);
        x.move(1, 1, 0, 5);
        x.move(0, 2, 0, 5);
        x.send(0, 1);
        c.due("of the same height the higher machine is later", x.thing(1, 1, 0, 2), 5);
        c.due("the lower", x.thing(1, 2, 0, 2), 10);
    }

    private static void bytes() {
        c.promise(12, "bytes");
        FolderRows x = new FolderRows();
        x.make(0, 1, 0, 0);
        x.make(0, 2, 0, 0);
        c.due("no row", x.bytes(0, 1, 0, -1), BAD);
        x.write(0, 1, 0x80FF, 2);
        c.due("length", x.bytes(0, 1, 0, -1), 2);
        c.due("byte 0", x.bytes(0, 1, 0, 0), 128);
        c.due("byte 1", x.bytes(0, 1, 0, 1), 255);
        c.due("byte 2", x.bytes(0, 1, 0, 2), BAD);
        c.due("byte -2", x.bytes(0, 1, 0, -2), BAD);
        c.due("row 1", x.bytes(0, 1, 1, -1), BAD);
        c.due("row -1", x.bytes(0, 1, -1, -1), BAD);
        c.due("a folder", x.bytes(0, 2, 0, -1), STATE);
        c.due("a folder, and no such row", x.bytes(0, 2, 99, 99), STATE);
        c.due("not there", x.bytes(0, 3, 0, -1), STATE);
        c.due("at machine 1", x.bytes(1, 1, 0, -1), STATE);
        c.due("machine 2", x.bytes(2, 1, 0, -1), BAD);
        c.due("thing 12", x.bytes(0, 12, 0, -1), BAD);
        c.due("thing -1", x.bytes(0, -1, 0, -1), BAD);
        x.night();
        x.write(0, 1, 5, 1);
        c.due("now", x.bytes(0, 1, 0, 0), 5);
    }

    private static void bulk() {
        c.promise(13, "bulk");
        FolderRows x = new FolderRows();
        x.make(0, 2, 0, 4);
        x.make(0, 2, 1, 1);
        x.make(0, 1, 2, 9);
        x.write(0, 3, 0x0102030405L, 5);
        x.send(0, 1);
        x.write(0, 3, 0x010203, 3);
        x.write(1, 3, 0x0102, 2);
        x.send(1, 0);
        long before = x.trace();
        c.due("bulk(-1, 0, 0)", x.bulk(-1, 0, 0), BAD);
        c.due("bulk(6, 0, 0)", x.bulk(6, 0, 0), BAD);
        c.due("bulk(0, 2, 0)", x.bulk(0, 2, 0), BAD);
        c.due("bulk(0, 0, 12)", x.bulk(0, 0, 12), BAD);
        c.due("bulk(0, 0, -1)", x.bulk(0, 0, -1), BAD);
        c.due("bulk(0, 0, 4)", x.bulk(0, 0, 4), STATE);
        c.due("refused ones leave no trace", x.trace(), before);
        c.due("thing", x.bulk(0, 0, 3), 13);
        c.due("file", x.bulk(1, 0, 3), 18);
        c.due("folder of a file", x.bulk(2, 0, 3), 13);
        c.due("link", x.bulk(3, 0, 3), 6);
        c.due("held, 5 halved to 2", x.bulk(4, 0, 3), 16);
        c.due("clash, two ways", x.bulk(5, 0, 3), 28);
        c.due("file at 1", x.bulk(1, 1, 3), 15);
        c.due("folder, what is right in it", x.bulk(2, 0, 1), 11);
        c.due("file of a folder", x.bulk(1, 0, 1), 8);
        c.due("link of a folder", x.bulk(3, 0, 2), 2);
        c.due("clash of a folder", x.bulk(5, 0, 1), 8);
        c.due("the root", x.bulk(0, 0, 0), 4);
        c.due("the root as a folder", x.bulk(2, 0, 0), 7);
        x.move(0, 3, 0, 9);
        c.due("with one more", x.bulk(2, 0, 0), 10);
        c.due("with one less", x.bulk(2, 0, 2), 5);
        c.due("clash, one way", x.bulk(5, 1, 3), 20);
    }

    private static void things() {
        c.promise(14, "things");
        FolderRows x = new FolderRows();
        c.due("machine 2", x.things(2, 0), BAD);
        c.due("machine -1", x.things(-1, 0), BAD);
        c.due("day 1", x.things(0, 1), BAD);
        c.due("day -1", x.things(0, -1), BAD);
        x.make(0, 2, 0, 0);
        x.make(0, 1, 1, 0);
        x.night();
        x.send(0, 1);
        x.gone(0, 1);
        c.due("day 0", x.things(0, 0), 3);
        c.due("today", x.things(0, 1), 1);
        c.due("1 on day 0", x.things(1, 0), 1);
        c.due("1 today", x.things(1, 1), 3);
    }

    private static void find() {
        c.promise(15, "find");
        FolderRows x = new FolderRows();
        x.make(0, 2, 0, 3);
        x.make(0, 1, 1, 3);
        x.make(0, 1, 1, 3);
        c.due("in the root", x.find(0, 0, 3), 1);
        c.due("the root is not in itself", x.find(0, 0, 0), NONE);
        c.due("in the folder", x.find(0, 1, 3), 3);
        c.due("name 10", x.find(0, 1, 10), 2);
        c.due("name 22", x.find(0, 1, 22), NONE);
        c.due("name 23", x.find(0, 1, 23), BAD);
        c.due("name -1", x.find(0, 1, -1), BAD);
        c.due("folder 12", x.find(0, 12, 0), BAD);
        c.due("folder -1", x.find(0, -1, 0), BAD);
        c.due("machine 2", x.find(2, 0, 0), BAD);
        c.due("a file", x.find(0, 2, 0), STATE);
        c.due("not there", x.find(0, 4, 0), STATE);
        x.gone(0, 3);
        c.due("after gone", x.find(0, 1, 3), 2);
        c.due("after gone, 10", x.find(0, 1, 10), NONE);
    }

    private static void sum() {
        c.promise(16, "sum");
        FolderRows x = new FolderRows();
        c.due("the root alone", x.sum(0, 0), 1);
        c.due("machine 2", x.sum(2, 0), BAD);
        c.due("day 1", x.sum(0, 1), BAD);
        c.due("day -1", x.sum(0, -1), BAD);
        x.make(0, 2, 0, 2);
        x.make(0, 1, 1, 6);
        x.write(0, 2, 0xC8FF, 2);
        c.due("three things", x.sum(0, 0), 1 + (1 + 14) + (1 + 2 * (31 + 42 + 200 + 255)));
        x.make(0, 1, 1, 6);
        c.due("by names that they have", x.sum(0, 0),
            1 + (1 + 14) + (1 + 2 * (31 + 70 + 200 + 255)) + (1 + 3 * (31 + 42)));
        x.night();
        x.gone(0, 1);
        c.due("today", x.sum(0, 1), 1);
        c.due("day 0", x.sum(0, 0), 1 + 15 + 1113 + 220);
    }

    private static void differ() {
        c.promise(17, "differ");
        FolderRows x = new FolderRows();
        c.due("none", x.differ(0, 1), 0);
        c.due("itself", x.differ(1, 1), 0);
        c.due("machine 2", x.differ(0, 2), BAD);
        c.due("machine -1", x.differ(-1, 0), BAD);
        x.make(0, 1, 0, 0);
        x.make(0, 1, 0, 0);
        x.make(1, 1, 0, 0);
        c.due("both ways", x.differ(0, 1), 3);
        c.due("turned round", x.differ(1, 0), 3);
        x.send(0, 1);
        c.due("one way", x.differ(0, 1), 1);
    }

    private static void sameRowsSameTree() {
        c.promise(16, "one tree in whatever order the rows came");
        FolderRows x = new FolderRows();
        x.machines(4);
        x.make(0, 2, 0, 1);
        x.make(0, 2, 0, 2);
        x.make(0, 1, 1, 3);
        x.send(0, 1);
        x.send(0, 2);
        x.send(0, 3);
        x.move(0, 1, 2, 3);
        x.move(1, 2, 1, 3);
        x.write(1, 3, 5, 1);
        x.gone(2, 1);
        x.write(2, 3, 6, 1);
        x.make(3, 1, 2, 3);
        x.write(3, 3, 7, 1);
        x.send(1, 0);
        x.send(2, 0);
        x.send(3, 0);
        x.sendSome(3, 1, 1);
        x.send(2, 1);
        x.send(0, 1);
        x.sendSome(1, 2, 2);
        x.send(1, 2);
        for (int rules = 0; rules < 4; rules++) {
            x.rules(rules);
            c.due("sum of 1, rules " + rules, x.sum(1, 0), x.sum(0, 0));
            c.due("sum of 2, rules " + rules, x.sum(2, 0), x.sum(0, 0));
        }
    }

    private static void apart() {
        c.promise(18, "apart");
        FolderRows x = new FolderRows();
        c.due("machine 2", x.apart(2, 0), BAD);
        c.due("machine -1", x.apart(-1, 0), BAD);
        c.due("from -1", x.apart(0, -1), BAD);
        c.due("from 21", x.apart(0, 21), BAD);
        x.make(0, 1, 0, 0);
        x.make(0, 1, 0, 1);
        c.due("apart(0, 20)", x.apart(0, 20), NONE);
        c.due("none left out", x.count(5), 0);
        c.due("apart(0, 1)", x.apart(0, 1), 20);
        c.due("one left out", x.count(5), 1);
        c.due("the tree", x.things(0, 0), 2);
        c.due("apart(0, 2)", x.apart(0, 2), 1);
        c.due("none left out", x.things(0, 0), 3);
        x.make(0, 1, 0, 2);
        c.due("new ones are left out", x.things(0, 0), 3);
        c.due("and count", x.count(5), 1);
        x.night();
        c.due("apart(0, 0)", x.apart(0, 0), 2);
        c.due("trees of other days too", x.things(0, 0), 1);
    }

    private static void apartAgainAndAgain() {
        c.promise(18, "what stands on it");
        FolderRows x = new FolderRows();
        x.machines(4);
        x.make(0, 1, 0, 0);
        x.make(3, 2, 0, 5);
        x.send(0, 1);
        x.make(1, 1, 0, 1);
        x.send(1, 2);
        x.make(2, 1, 0, 2);
        x.send(2, 3);
        x.make(3, 1, 0, 3);
        x.send(3, 0);
        x.apart(0, 0);
        c.due("over three", x.change(3, 1, 5), 1);
        c.due("what is free of it", x.change(3, 0, 5), 0);
        c.due("left out", x.count(5), 4);
        c.due("what is there", x.things(0, 0), 2);
        c.due("the other new of 1 tells now", x.thing(0, 1, 0, 0), 2);
        c.due("a later change on it", x.make(0, 1, 0, 1), 5);
        c.due("is left out", x.change(0, 1, 5), 1);

        x = new FolderRows();
        x.make(0, 1, 0, 0);
        x.make(0, 1, 0, 1);
        x.apart(0, 1);
        x.sendSome(0, 1, 1);
        c.due("on the first alone", x.make(1, 1, 0, 2), 2);
        c.due("it stays", x.change(1, 0, 5), 0);
        x.send(0, 1);
        c.due("on both", x.make(1, 1, 0, 3), 3);
        c.due("left out at once", x.change(1, 1, 5), 1);
        c.due("so it is not there", x.thing(1, 3, 0, 0), NONE);
        c.due("2 is of machine 1 now", x.thing(1, 2, 0, 2), 2);
        c.due("left out in all", x.count(5), 2);
    }

    private static void let() {
        c.promise(19, "let");
        FolderRows x = new FolderRows();
        c.due("machine 2", x.let(2), BAD);
        c.due("machine -1", x.let(-1), BAD);
        c.due("not apart", x.let(0), STATE);
        x.make(0, 1, 0, 0);
        x.make(1, 1, 0, 0);
        x.apart(0, 0);
        x.apart(1, 20);
        c.due("gone from the tree", x.things(0, 0), 1);
        c.due("let(0)", x.let(0), 0);
        c.due("back", x.things(0, 0), 2);
        c.due("again", x.let(0), STATE);
        c.due("let(1)", x.let(1), 20);
        c.due("apart anew", x.apart(0, 3), NONE);
    }

    private static void taken() {
        c.promise(20, "taken");
        FolderRows x = new FolderRows();
        x.machines(3);
        c.due("machine 3", x.taken(3), BAD);
        c.due("machine -1", x.taken(-1), BAD);
        x.make(0, 1, 0, 0);
        x.make(0, 1, 0, 1);
        x.make(0, 1, 0, 2);
        x.sendSome(0, 1, 2);
        x.make(1, 1, 0, 3);
        c.due("none", x.taken(0), 0);
        x.apart(0, 1);
        c.due("at 0", x.taken(0), 2);
        c.due("at 1", x.taken(1), 2);
        c.due("at 2", x.taken(2), 0);
        x.apart(0, 2);
        c.due("at 1, free of it", x.taken(1), 0);
        x.apart(1, 0);
        c.due("both apart", x.taken(1), 1);
        x.send(1, 0);
        c.due("both at 0", x.taken(0), 2);
    }
}
