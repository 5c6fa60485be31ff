/**
 * One folder that lives on several machines which are often away from one another.
 *
 * Every machine keeps a row of changes. What a machine shows is never stored: its tree is
 * grown anew from the changes that it knows, taken in one order that is the same for all,
 * so that machines with the same changes have the same tree however these came to them.
 *
 * All arrays are made once, in the constructors, and used again by every call.
 */
public final class FolderRows {
    public static final int BAD = -1, STATE = -2, FULL = -3, NONE = -9;

    private static final int MOST_MACHINES = 4, MACHINES_AT_FIRST = 2;
    private static final int CHANGES_EACH = 20, CHANGES_IN_ALL = MOST_MACHINES * CHANGES_EACH;
    private static final int THINGS_IN_ALL = 12, ROOT = 0;
    private static final int DAYS_IN_ALL = 30;
    private static final int FIRST_SPARE_NAME = 10, LAST_NAME = 22;
    private static final int MOST_BYTES = 8;
    private static final int ROOM_AT_FIRST = 20, MOST_ROOM = 200;
    private static final int PERSONS_IN_ALL = 8, SHARES_IN_ALL = 20;
    private static final int ODD_DAYS = 8, ODD_CHANGES = 12;
    private static final int SUM_MODULUS = 1000003;

    private static final int RULE_COMES_BACK = 1, RULE_EARLIEST = 2, ALL_RULES = 3;

    private static final int NEW = 0, MOVE = 1, GONE = 2, WRITE = 3;

    private static final int THING = 0, FILE = 1, FOLDER = 2, LINK = 3, HELD = 4, CLASH = 5;

    // A later row of a machine has the machine's earlier rows in its ground and takes their
    // place, so a file never holds more rows than there are machines.
    private static final int ROWS_EACH = MOST_MACHINES;
    private static final int PIECES_OF_A_FILE = ROWS_EACH * MOST_BYTES;
    private static final int PIECES_OF_A_TREE = THINGS_IN_ALL * PIECES_OF_A_FILE;

    private final Log log;
    private final Tree tree;
    private final PieceSet[] kept;
    private final PieceSet wanted;
    private final PieceSet elsewhere;
    private final int[] roomOf;
    private final ShareList shareList;
    private int machineCount;
    private int ruleBits;
    private long tally;

    public FolderRows() {
        log = new Log();
        tree = new Tree(log);
        kept = new PieceSet[MOST_MACHINES];
        for (int m = 0; m < MOST_MACHINES; m++) {
            // Every piece has a byte at least, so the most room bounds their number too.
            kept[m] = new PieceSet(MOST_ROOM);
        }
        wanted = new PieceSet(PIECES_OF_A_FILE);
        elsewhere = new PieceSet(PIECES_OF_A_TREE);
        roomOf = new int[MOST_MACHINES];
        shareList = new ShareList();
        beginAnew(MACHINES_AT_FIRST);
    }

    // ---- changes

    public int machines(int n) {
        if (n < 1 || n > MOST_MACHINES) {
            return BAD;
        }
        int before = machineCount;
        beginAnew(n);
        return before;
    }

    public int rules(int bits) {
        if (bits < 0 || bits > ALL_RULES) {
            return BAD;
        }
        int before = ruleBits;
        ruleBits = bits;
        return before;
    }

    public int make(int machine, int kind, int folder, int name) {
        if (!isMachine(machine) || (kind != FILE && kind != FOLDER) || !isThing(folder) || !isOwnName(name)) {
            return BAD;
        }
        growNow(machine);
        if (!tree.isFolder(folder)) {
            return STATE;
        }
        int thing = log.leastUnmade(machine);
        if (thing >= THINGS_IN_ALL || log.isFull(machine)) {
            return FULL;
        }
        Change c = log.append(machine, NEW, thing);
        c.kind = kind;
        c.folder = folder;
        c.label = name;
        return thing;
    }

    public int move(int machine, int thing, int folder, int name) {
        if (!isMachine(machine) || !isThing(thing) || !isThing(folder) || !isOwnName(name)) {
            return BAD;
        }
        growNow(machine);
        if (!tree.mayMove(thing, folder)) {
            return STATE;
        }
        if (log.isFull(machine)) {
            return FULL;
        }
        Change c = log.append(machine, MOVE, thing);
        c.folder = folder;
        c.label = name;
        return c.number;
    }

    public int gone(int machine, int thing) {
        if (!isMachine(machine) || !isThing(thing)) {
            return BAD;
        }
        growNow(machine);
        if (thing == ROOT || !tree.isThere(thing)) {
            return STATE;
        }
        if (log.isFull(machine)) {
            return FULL;
        }
        return log.append(machine, GONE, thing).number;
    }

    public int write(int machine, int thing, long bytes, int n) {
        if (!isMachine(machine) || !isThing(thing) || n < 0 || n > MOST_BYTES) {
            return BAD;
        }
        growNow(machine);
        if (!tree.isFile(thing)) {
            return STATE;
        }
        wanted.empty();
        wanted.addCutOf(bytes, n);
        if (!hasRoomForWanted(machine)) {
            return STATE;
        }
        if (log.isFull(machine)) {
            return FULL;
        }
        Change c = log.append(machine, WRITE, thing);
        c.content = bytes;
        c.length = n;
        kept[machine].addAll(wanted);
        return c.number;
    }

    public int send(int from, int to) {
        if (!isMachine(from) || !isMachine(to) || from == to) {
            return BAD;
        }
        return log.passOn(from, to, CHANGES_IN_ALL);
    }

    public int sendSome(int from, int to, int k) {
        if (!isMachine(from) || !isMachine(to) || from == to || k < 1 || k > CHANGES_EACH) {
            return BAD;
        }
        return log.passOn(from, to, k);
    }

    public int change(int machine, int i, int what) {
        if (!isMachine(machine) || i < 0 || i >= log.madeCount[machine]) {
            return BAD;
        }
        Change c = log.changeOf(machine, i);
        switch (what) {
            case 0:
                return c.act;
            case 1:
                return c.subject;
            case 2:
                return c.height;
            case 3:
                return c.groundSize();
            case 4:
                return c.madeOn;
            case 5:
                return log.isLeftOut(c) ? 1 : 0;
            default:
                return BAD;
        }
    }

    // ---- trees

    public int thing(int machine, int thing, int day, int what) {
        if (!isMachine(machine) || !isThing(thing) || !isDay(day) || what < 0 || what > 3) {
            return BAD;
        }
        tree.grow(machine, day, ruleBits);
        if (!tree.isThere(thing)) {
            return what == 0 ? NONE : STATE;
        }
        if (what == 0) {
            return tree.rowCount[thing] > 1 ? CLASH : tree.kind[thing];
        }
        if (what == 1) {
            return thing == ROOT ? NONE : tree.folder[thing];
        }
        return what == 2 ? tree.label[thing] : tree.rowCount[thing];
    }

    public int bytes(int machine, int thing, int i, int what) {
        if (!isMachine(machine) || !isThing(thing)) {
            return BAD;
        }
        growNow(machine);
        if (!tree.isFile(thing)) {
            return STATE;
        }
        if (i < 0 || i >= tree.rowCount[thing]) {
            return BAD;
        }
        Change row = tree.rowOf(thing, i);
        if (what == -1) {
            return row.length;
        }
        if (what < 0 || what >= row.length) {
            return BAD;
        }
        return byteOf(row.content, row.length, what);
    }

    public int bulk(int kind, int machine, int thing) {
        if (kind < THING || kind > CLASH || !isMachine(machine) || !isThing(thing)) {
            return BAD;
        }
        growNow(machine);
        if (!tree.isThere(thing)) {
            return STATE;
        }
        switch (kind) {
            case FILE:
                return bulkAsFile(thing);
            case FOLDER:
                return bulkAsFolder(thing);
            case LINK:
                return bulkAsLink(thing);
            case HELD:
                return bulkAsHeld(thing);
            case CLASH:
                return bulkAsClash(thing);
            default:
                return bulkAsThing(thing);
        }
    }

    public int things(int machine, int day) {
        if (!isMachine(machine) || !isDay(day)) {
            return BAD;
        }
        tree.grow(machine, day, ruleBits);
        int number = 0;
        for (int t = 0; t < THINGS_IN_ALL; t++) {
            if (tree.isThere(t)) {
                number++;
            }
        }
        return number;
    }

    public int find(int machine, int folder, int name) {
        if (!isMachine(machine) || !isThing(folder) || name < 0 || name > LAST_NAME) {
            return BAD;
        }
        growNow(machine);
        if (!tree.isFolder(folder)) {
            return STATE;
        }
        return tree.thingNamed(folder, name);
    }

    public int sum(int machine, int day) {
        if (!isMachine(machine) || !isDay(day)) {
            return BAD;
        }
        tree.grow(machine, day, ruleBits);
        int total = 0;
        for (int t = 0; t < THINGS_IN_ALL; t++) {
            if (tree.isThere(t)) {
                int marks = 31 * tree.folder[t] + 7 * tree.label[t] + tree.byteTotal(t);
                total = (total + 1 + t * marks) % SUM_MODULUS;
            }
        }
        return total;
    }

    public int differ(int a, int b) {
        if (!isMachine(a) || !isMachine(b)) {
            return BAD;
        }
        int number = 0;
        for (int of = 0; of < MOST_MACHINES; of++) {
            number += Math.abs(log.knownOf(log.today, a, of) - log.knownOf(log.today, b, of));
        }
        return number;
    }

    // ---- apart

    public int apart(int machine, int from) {
        if (!isMachine(machine) || from < 0 || from > CHANGES_EACH) {
            return BAD;
        }
        return log.setApart(machine, from);
    }

    public int let(int machine) {
        if (!isMachine(machine)) {
            return BAD;
        }
        if (log.apartFrom[machine] == NONE) {
            return STATE;
        }
        return log.setApart(machine, NONE);
    }

    public int taken(int machine) {
        if (!isMachine(machine)) {
            return BAD;
        }
        int number = 0;
        for (int of = 0; of < MOST_MACHINES; of++) {
            number += Math.max(0, log.knownOf(log.today, machine, of) - log.leftFrom[of]);
        }
        return number;
    }

    // ---- pieces

    public int room(int machine, int v) {
        if (!isMachine(machine) || v < 0 || v > MOST_ROOM) {
            return BAD;
        }
        if (kept[machine].byteCount > v) {
            return STATE;
        }
        int before = roomOf[machine];
        roomOf[machine] = v;
        return before;
    }

    public int pieces(int machine, int what, int thing) {
        if (!isMachine(machine) || what < 0 || what > 2 || (what == 2 && !isThing(thing))) {
            return BAD;
        }
        if (what == 0) {
            return kept[machine].number;
        }
        if (what == 1) {
            return kept[machine].byteCount;
        }
        growNow(machine);
        if (!tree.isFile(thing)) {
            return STATE;
        }
        wantPiecesOf(thing);
        wanted.removeAll(kept[machine]);
        return wanted.number;
    }

    public int fetch(int machine, int thing) {
        if (!isMachine(machine) || !isThing(thing)) {
            return BAD;
        }
        growNow(machine);
        if (!tree.isFile(thing)) {
            return STATE;
        }
        wantPiecesOf(thing);
        wanted.removeAll(kept[machine]);
        if (!othersHaveWanted(machine) || !hasRoomForWanted(machine)) {
            return STATE;
        }
        kept[machine].addAll(wanted);
        return wanted.byteCount;
    }

    public int away(int machine, int thing) {
        if (!isMachine(machine) || !isThing(thing)) {
            return BAD;
        }
        growNow(machine);
        if (!tree.isFile(thing)) {
            return STATE;
        }
        wantPiecesOf(thing);
        wanted.keepOnly(kept[machine]);
        gatherPiecesOfOthers(thing);
        wanted.removeAll(elsewhere);
        if (!othersHaveWanted(machine)) {
            return STATE;
        }
        kept[machine].removeAll(wanted);
        return wanted.byteCount;
    }

    // ---- days, shares

    public int night() {
        if (log.today >= DAYS_IN_ALL - 1) {
            return STATE;
        }
        log.nextDay();
        return log.today;
    }

    public int share(int person, int thing) {
        if (!isPerson(person) || !isThing(thing)) {
            return BAD;
        }
        if (shareList.number >= SHARES_IN_ALL) {
            return FULL;
        }
        return shareList.begin(person, thing, log.today);
    }

    public int take(int share) {
        if (share < 0 || share >= shareList.number) {
            return BAD;
        }
        if (shareList.endedOn[share] != NONE) {
            return STATE;
        }
        shareList.endedOn[share] = log.today;
        return shareList.begunOn[share];
    }

    public int could(int person, int machine, int thing, int day) {
        if (!isPerson(person) || !isMachine(machine) || !isThing(thing) || !isDay(day)) {
            return BAD;
        }
        tree.grow(machine, day, ruleBits);
        if (!tree.isThere(thing)) {
            return STATE;
        }
        for (int s = 0; s < shareList.number; s++) {
            if (shareList.holds(s, person, day) && tree.isWithin(thing, shareList.subject[s])) {
                return 1;
            }
        }
        return 0;
    }

    public long odd(int machine, int day, int what) {
        if (!isMachine(machine) || !isDay(day) || what < 0 || what > 1) {
            return BAD;
        }
        int days = log.today + 1;
        int changes = log.madeCount[machine];
        if (days > ODD_DAYS || changes > ODD_CHANGES) {
            return STATE;
        }
        if (what == 1) {
            return power(days, changes);
        }
        return waysOfAtLeast(log.madeOnDay(machine, day), changes, days);
    }

    public int count(int what) {
        switch (what) {
            case 0:
                return machineCount;
            case 1:
                return log.total;
            case 2:
                return log.today;
            case 3:
                return shareList.holding();
            case 4:
                return ruleBits;
            case 5:
                return log.leftOutInAll();
            default:
                return BAD;
        }
    }

    public long trace() {
        return tally;
    }

    // ---- what the calls share

    private void beginAnew(int n) {
        machineCount = n;
        log.empty();
        shareList.number = 0;
        for (int m = 0; m < MOST_MACHINES; m++) {
            kept[m].empty();
            roomOf[m] = ROOM_AT_FIRST;
        }
    }

    private boolean isMachine(int machine) {
        return machine >= 0 && machine < machineCount;
    }

    private static boolean isThing(int thing) {
        return thing >= 0 && thing < THINGS_IN_ALL;
    }

    private static boolean isOwnName(int name) {
        return name >= 0 && name < FIRST_SPARE_NAME;
    }

    private static boolean isPerson(int person) {
        return person >= 0 && person < PERSONS_IN_ALL;
    }

    private boolean isDay(int day) {
        return day >= 0 && day <= log.today;
    }

    private void growNow(int machine) {
        tree.grow(machine, log.today, ruleBits);
    }

    /** The i-th of the lowest n bytes, the highest of these first. */
    private static int byteOf(long content, int n, int i) {
        return (int) (content >>> (8 * (n - 1 - i))) & 255;
    }

    // ---- bulk: one body for each kind; a body asks the one above it by its name

    private int bulkAsThing(int thing) {
        tally += 1;
        return 4 + tree.label[thing];
    }

    private int bulkAsFile(int thing) {
        tally += 10;
        return bulkAsThing(thing) + tree.byteCount(thing);
    }

    private int bulkAsFolder(int thing) {
        tally += 100;
        return bulkAsThing(thing) + 3 * tree.childCount(thing);
    }

    private int bulkAsLink(int thing) {
        tally += 1000;
        return bulkAsThing(thing) / 2;
    }

    private int bulkAsHeld(int thing) {
        tally += 10000;
        return bulkAsFile(thing) - tree.byteCount(thing) / 2;
    }

    private int bulkAsClash(int thing) {
        tally += 100000;
        return bulkAsFile(thing) + 5 * tree.rowCount[thing];
    }

    // ---- pieces

    private void wantPiecesOf(int thing) {
        wanted.empty();
        addPiecesOf(thing, wanted);
    }

    private void gatherPiecesOfOthers(int thing) {
        elsewhere.empty();
        for (int t = 0; t < THINGS_IN_ALL; t++) {
            if (t != thing && tree.isFile(t)) {
                addPiecesOf(t, elsewhere);
            }
        }
    }

    private void addPiecesOf(int thing, PieceSet set) {
        for (int r = 0; r < tree.rowCount[thing]; r++) {
            Change row = tree.rowOf(thing, r);
            set.addCutOf(row.content, row.length);
        }
    }

    private boolean hasRoomForWanted(int machine) {
        PieceSet here = kept[machine];
        return here.byteCount + wanted.bytesNotIn(here) <= roomOf[machine];
    }

    private boolean othersHaveWanted(int machine) {
        for (int p = 0; p < wanted.number; p++) {
            boolean found = false;
            for (int m = 0; m < machineCount; m++) {
                found = found || (m != machine && kept[m].has(wanted.content[p], wanted.length[p]));
            }
            if (!found) {
                return false;
            }
        }
        return true;
    }

    // ---- odd days

    private static long power(int base, int exponent) {
        long value = 1;
        for (int i = 0; i < exponent; i++) {
            value *= base;
        }
        return value;
    }

    private static long choose(int n, int k) {
        long value = 1;
        for (int i = 0; i < k; i++) {
            value = value * (n - i) / (i + 1);
        }
        return value;
    }

    private static long waysOfAtLeast(int least, int changes, int days) {
        long ways = 0;
        for (int j = least; j <= changes; j++) {
            ways += choose(changes, j) * power(days - 1, changes - j);
        }
        return ways;
    }

    /** One change, with what its machine knew ahead of it: of each machine a first part. */
    private static final class Change {
        final int[] ground = new int[MOST_MACHINES];
        int owner;
        int number;
        int act;
        int subject;
        int height;
        int madeOn;
        int kind;
        int folder;
        int label;
        int length;
        long content;

        /** Where the log keeps it. */
        int slot() {
            return owner * CHANGES_EACH + number;
        }

        int groundSize() {
            int size = 0;
            for (int of = 0; of < MOST_MACHINES; of++) {
                size += ground[of];
            }
            return size;
        }

        boolean standsOn(Change other) {
            return other.number < ground[other.owner];
        }

        boolean isAheadOf(Change other) {
            return height < other.height || (height == other.height && owner < other.owner);
        }
    }

    /** All changes, their order, who knew which of them on which day, and who is apart. */
    private static final class Log {
        final Change[] changes = new Change[CHANGES_IN_ALL];
        final int[] order = new int[CHANGES_IN_ALL];
        final int[] madeCount = new int[MOST_MACHINES];
        final int[] known = new int[DAYS_IN_ALL * MOST_MACHINES * MOST_MACHINES];
        final int[] apartFrom = new int[MOST_MACHINES];
        final int[] leftFrom = new int[MOST_MACHINES];
        int total;
        int today;

        Log() {
            for (int i = 0; i < CHANGES_IN_ALL; i++) {
                changes[i] = new Change();
            }
        }

        void empty() {
            total = 0;
            today = 0;
            for (int m = 0; m < MOST_MACHINES; m++) {
                madeCount[m] = 0;
                apartFrom[m] = NONE;
                leftFrom[m] = CHANGES_EACH;
            }
            // Later days are copied from the day ahead of them, so day 0 alone must be cleared.
            for (int i = 0; i < MOST_MACHINES * MOST_MACHINES; i++) {
                known[i] = 0;
            }
        }

        static int placeOf(int day, int machine, int of) {
            return (day * MOST_MACHINES + machine) * MOST_MACHINES + of;
        }

        int knownOf(int day, int machine, int of) {
            return known[placeOf(day, machine, of)];
        }

        boolean knows(int day, int machine, Change c) {
            return c.number < knownOf(day, machine, c.owner);
        }

        Change changeOf(int machine, int number) {
            return changes[machine * CHANGES_EACH + number];
        }

        Change inOrder(int place) {
            return changes[order[place]];
        }

        boolean isFull(int machine) {
            return madeCount[machine] >= CHANGES_EACH;
        }

        /** Adds a change of a machine that is not full; the caller tells the rest of it. */
        Change append(int machine, int act, int subject) {
            Change c = changeOf(machine, madeCount[machine]);
            c.owner = machine;
            c.number = madeCount[machine];
            c.act = act;
            c.subject = subject;
            c.madeOn = today;
            c.height = 1;
            for (int of = 0; of < MOST_MACHINES; of++) {
                int knownNow = knownOf(today, machine, of);
                c.ground[of] = knownNow;
                if (knownNow > 0) {
                    c.height = Math.max(c.height, 1 + changeOf(of, knownNow - 1).height);
                }
            }
            putInOrder(c);
            madeCount[machine]++;
            known[placeOf(today, machine, machine)]++;
            findLeftOut();
            return c;
        }

        private void putInOrder(Change c) {
            int place = total;
            while (place > 0 && c.isAheadOf(inOrder(place - 1))) {
                order[place] = order[place - 1];
                place--;
            }
            order[place] = c.slot();
            total++;
        }

        int leastUnmade(int machine) {
            int marks = 0;
            for (int i = 0; i < total; i++) {
                Change c = inOrder(i);
                if (c.act == NEW && knows(today, machine, c)) {
                    marks |= 1 << c.subject;
                }
            }
            int thing = 1;
            while (thing < THINGS_IN_ALL && (marks & (1 << thing)) != 0) {
                thing++;
            }
            return thing;
        }

        /**
         * Sends at most so many changes in the order. All ground of a change is ahead of it in
         * the order and known wherever it is known, so it has come by the change's own turn.
         */
        int passOn(int from, int to, int most) {
            int number = 0;
            for (int i = 0; i < total && number < most; i++) {
                Change c = inOrder(i);
                if (knows(today, from, c) && !knows(today, to, c)) {
                    known[placeOf(today, to, c.owner)] = c.number + 1;
                    number++;
                }
            }
            return number;
        }

        void nextDay() {
            int size = MOST_MACHINES * MOST_MACHINES;
            System.arraycopy(known, today * size, known, (today + 1) * size, size);
            today++;
        }

        int setApart(int machine, int from) {
            int before = apartFrom[machine];
            apartFrom[machine] = from;
            findLeftOut();
            return before;
        }

        /**
         * What a machine did behind a left out change stands on it, so what is left out of a
         * machine is always all from a number on. In the order, ground is settled first.
         */
        private void findLeftOut() {
            for (int m = 0; m < MOST_MACHINES; m++) {
                leftFrom[m] = apartFrom[m] == NONE ? CHANGES_EACH : apartFrom[m];
            }
            for (int i = 0; i < total; i++) {
                Change c = inOrder(i);
                if (standsOnLeftOut(c)) {
                    leftFrom[c.owner] = Math.min(leftFrom[c.owner], c.number);
                }
            }
        }

        private boolean standsOnLeftOut(Change c) {
            for (int of = 0; of < MOST_MACHINES; of++) {
                if (c.ground[of] > leftFrom[of]) {
                    return true;
                }
            }
            return false;
        }

        boolean isLeftOut(Change c) {
            return c.number >= leftFrom[c.owner];
        }

        int leftOutInAll() {
            int number = 0;
            for (int m = 0; m < MOST_MACHINES; m++) {
                number += Math.max(0, madeCount[m] - leftFrom[m]);
            }
            return number;
        }

        int madeOnDay(int machine, int day) {
            int number = 0;
            for (int i = 0; i < madeCount[machine]; i++) {
                if (changeOf(machine, i).madeOn == day) {
                    number++;
                }
            }
            return number;
        }
    }

    /** The tree that was grown last: things, where they lie, and the rows that files hold. */
    private static final class Tree {
        private static final int UNNAMED = -1;

        final Log log;
        final boolean[] made = new boolean[THINGS_IN_ALL];
        final boolean[] there = new boolean[THINGS_IN_ALL];
        final int[] kind = new int[THINGS_IN_ALL];
        final int[] folder = new int[THINGS_IN_ALL];
        final int[] wish = new int[THINGS_IN_ALL];
        final int[] label = new int[THINGS_IN_ALL];
        final int[] placedAt = new int[THINGS_IN_ALL];
        final int[] rowCount = new int[THINGS_IN_ALL];
        final int[] rows = new int[THINGS_IN_ALL * ROWS_EACH];

        Tree(Log log) {
            this.log = log;
        }

        /** Grows the tree of what a machine knew at the end of a day. */
        void grow(int machine, int day, int ruleBits) {
            clear();
            for (int i = 0; i < log.total; i++) {
                Change c = log.inOrder(i);
                if (log.knows(day, machine, c) && !log.isLeftOut(c)) {
                    apply(c, i, ruleBits);
                }
            }
            nameAll(ruleBits);
        }

        private void clear() {
            for (int t = 0; t < THINGS_IN_ALL; t++) {
                made[t] = false;
                there[t] = false;
                kind[t] = FILE;
                folder[t] = ROOT;
                wish[t] = 0;
                label[t] = UNNAMED;
                placedAt[t] = 0;
                rowCount[t] = 0;
            }
            made[ROOT] = true;
            there[ROOT] = true;
            kind[ROOT] = FOLDER;
            label[ROOT] = 0;
        }

        private void apply(Change c, int place, int ruleBits) {
            switch (c.act) {
                case NEW:
                    applyNew(c, place);
                    break;
                case MOVE:
                    if (mayMove(c.subject, c.folder)) {
                        put(c, c.folder, place);
                    }
                    break;
                case GONE:
                    applyGone(c.subject);
                    break;
                default:
                    applyWrite(c, ruleBits);
                    break;
            }
        }

        private void applyNew(Change c, int place) {
            int t = c.subject;
            if (made[t]) {
                return;
            }
            put(c, isFolder(c.folder) ? c.folder : ROOT, place);
            made[t] = true;
            there[t] = true;
            kind[t] = c.kind;
        }

        private void put(Change c, int into, int place) {
            folder[c.subject] = into;
            wish[c.subject] = c.label;
            placedAt[c.subject] = place;
        }

        private void applyGone(int thing) {
            if (thing == ROOT || !there[thing]) {
                return;
            }
            for (int t = 1; t < THINGS_IN_ALL; t++) {
                if (there[t] && isWithin(t, thing)) {
                    there[t] = false;
                }
            }
        }

        private void applyWrite(Change c, int ruleBits) {
            int t = c.subject;
            if (!made[t] || kind[t] != FILE) {
                return;
            }
            if (!there[t]) {
                if ((ruleBits & RULE_COMES_BACK) == 0) {
                    return;
                }
                there[t] = true;
                folder[t] = isFolder(folder[t]) ? folder[t] : ROOT;
            }
            holdRow(t, c);
        }

        private void holdRow(int t, Change write) {
            int base = t * ROWS_EACH;
            int stay = 0;
            for (int r = 0; r < rowCount[t]; r++) {
                if (!write.standsOn(rowOf(t, r))) {
                    rows[base + stay] = rows[base + r];
                    stay++;
                }
            }
            if (stay < ROWS_EACH) {
                rows[base + stay] = write.slot();
                stay++;
            }
            rowCount[t] = stay;
        }

        /** Gives names to one thing after the other, those first that come ahead by the rule. */
        private void nameAll(int ruleBits) {
            boolean earliestFirst = (ruleBits & RULE_EARLIEST) != 0;
            int t = nextUnnamed(earliestFirst);
            for (int done = 1; done < THINGS_IN_ALL && t != NONE; done++) {
                label[t] = freeNameFor(t);
                t = nextUnnamed(earliestFirst);
            }
        }

        private int nextUnnamed(boolean earliestFirst) {
            int best = NONE;
            for (int t = 1; t < THINGS_IN_ALL; t++) {
                if (there[t] && label[t] == UNNAMED
                        && (best == NONE || (placedAt[t] < placedAt[best]) == earliestFirst)) {
                    best = t;
                }
            }
            return best;
        }

        private int freeNameFor(int t) {
            if (thingNamed(folder[t], wish[t]) == NONE) {
                return wish[t];
            }
            int name = FIRST_SPARE_NAME;
            while (name < LAST_NAME && thingNamed(folder[t], name) != NONE) {
                name++;
            }
            return name;
        }

        int thingNamed(int inFolder, int name) {
            for (int t = 1; t < THINGS_IN_ALL; t++) {
                if (there[t] && folder[t] == inFolder && label[t] == name) {
                    return t;
                }
            }
            return NONE;
        }

        boolean isThere(int t) {
            return there[t];
        }

        boolean isFile(int t) {
            return there[t] && kind[t] == FILE;
        }

        boolean isFolder(int t) {
            return there[t] && kind[t] == FOLDER;
        }

        boolean mayMove(int t, int into) {
            return t != ROOT && there[t] && isFolder(into) && !isWithin(into, t);
        }

        /** Whether a thing is another one or lies in it, over any many. */
        boolean isWithin(int t, int outer) {
            int at = t;
            for (int step = 0; step < THINGS_IN_ALL && at != outer && at != ROOT; step++) {
                at = folder[at];
            }
            return at == outer;
        }

        Change rowOf(int t, int r) {
            return log.changes[rows[t * ROWS_EACH + r]];
        }

        int childCount(int t) {
            int number = 0;
            for (int c = 1; c < THINGS_IN_ALL; c++) {
                if (there[c] && folder[c] == t) {
                    number++;
                }
            }
            return number;
        }

        int byteCount(int t) {
            int number = 0;
            for (int r = 0; r < rowCount[t]; r++) {
                number += rowOf(t, r).length;
            }
            return number;
        }

        int byteTotal(int t) {
            int total = 0;
            for (int r = 0; r < rowCount[t]; r++) {
                Change row = rowOf(t, r);
                for (int i = 0; i < row.length; i++) {
                    total += byteOf(row.content, row.length, i);
                }
            }
            return total;
        }
    }

    /** Pieces, told by their bytes, each once. */
    private static final class PieceSet {
        final long[] content;
        final int[] length;
        int number;
        int byteCount;

        PieceSet(int most) {
            content = new long[Math.max(0, most)];
            length = new int[Math.max(0, most)];
        }

        void empty() {
            number = 0;
            byteCount = 0;
        }

        private int placeOf(long bytes, int n) {
            for (int p = 0; p < number; p++) {
                if (content[p] == bytes && length[p] == n) {
                    return p;
                }
            }
            return NONE;
        }

        boolean has(long bytes, int n) {
            return placeOf(bytes, n) != NONE;
        }

        private void add(long bytes, int n) {
            if (!has(bytes, n) && number < content.length) {
                content[number] = bytes;
                length[number] = n;
                number++;
                byteCount += n;
            }
        }

        private void removeAt(int p) {
            byteCount -= length[p];
            number--;
            content[p] = content[number];
            length[p] = length[number];
        }

        /** Cuts a row behind each byte that is 3 modulo 4, and behind its last one. */
        void addCutOf(long bytes, int n) {
            long piece = 0;
            int size = 0;
            for (int i = 0; i < n; i++) {
                int b = byteOf(bytes, n, i);
                piece = (piece << 8) | b;
                size++;
                if (b % 4 == 3 || i == n - 1) {
                    add(piece, size);
                    piece = 0;
                    size = 0;
                }
            }
        }

        void addAll(PieceSet other) {
            for (int p = 0; p < other.number; p++) {
                add(other.content[p], other.length[p]);
            }
        }

        // From the last piece on: the one that fills a gap has been looked at already.
        void removeAll(PieceSet other) {
            for (int p = number - 1; p >= 0; p--) {
                if (other.has(content[p], length[p])) {
                    removeAt(p);
                }
            }
        }

        void keepOnly(PieceSet other) {
            for (int p = number - 1; p >= 0; p--) {
                if (!other.has(content[p], length[p])) {
                    removeAt(p);
                }
            }
        }

        int bytesNotIn(PieceSet other) {
            int bytes = 0;
            for (int p = 0; p < number; p++) {
                if (!other.has(content[p], length[p])) {
                    bytes += length[p];
                }
            }
            return bytes;
        }
    }

    /** Shares by number; those taken back stay, for the days on which they held. */
    private static final class ShareList {
        final int[] reader = new int[SHARES_IN_ALL];
        final int[] subject = new int[SHARES_IN_ALL];
        final int[] begunOn = new int[SHARES_IN_ALL];
        final int[] endedOn = new int[SHARES_IN_ALL];
        int number;

        int begin(int person, int thing, int day) {
            reader[number] = person;
            subject[number] = thing;
            begunOn[number] = day;
            endedOn[number] = NONE;
            number++;
            return number - 1;
        }

        boolean holds(int s, int person, int day) {
            boolean ended = endedOn[s] != NONE && endedOn[s] <= day;
            return reader[s] == person && begunOn[s] <= day && !ended;
        }

        int holding() {
            int holding = 0;
            for (int s = 0; s < number; s++) {
                if (endedOn[s] == NONE) {
                    holding++;
                }
            }
            return holding;
        }
    }
}
