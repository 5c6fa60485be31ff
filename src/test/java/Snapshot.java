/**
 * All that an object tells of itself, as a text, so that two states can be held against each
 * other. It asks far more than 512 calls; the class counts none, so its answers stand.
 */
final class Snapshot {
    private static final int THINGS = 12, PERSONS = 8, CHANGES = 20, NAMES = 23, ROWS = 4, BYTES = 8;

    private final FolderRows x;
    private final StringBuilder told = new StringBuilder();
    private final int machines;
    private final int today;

    private Snapshot(FolderRows x) {
        this.x = x;
        machines = x.count(0);
        today = x.count(2);
    }

    static String of(FolderRows x) {
        Snapshot s = new Snapshot(x);
        s.tellCounts();
        for (int m = 0; m < s.machines; m++) {
            s.tellMachine(m);
            s.tellFiles(m);
            for (int day = 0; day <= s.today; day++) {
                s.tellTree(m, day);
            }
        }
        return s.told.toString();
    }

    private void tell(long answer) {
        told.append(answer).append(' ');
    }

    private void tellCounts() {
        for (int what = 0; what < 6; what++) {
            tell(x.count(what));
        }
        tell(x.trace());
    }

    private void tellMachine(int m) {
        for (int i = 0; i < CHANGES; i++) {
            for (int what = 0; what < 6; what++) {
                tell(x.change(m, i, what));
            }
        }
        for (int other = 0; other < machines; other++) {
            tell(x.differ(m, other));
        }
        tell(x.taken(m));
        tellRoom(m);
        tellApart(m);
    }

    // Room and apart are told by the calls that set them alone, so they are set back at once.
    private void tellRoom(int m) {
        int room = x.room(m, 200);
        tell(room);
        x.room(m, room);
    }

    private void tellApart(int m) {
        int from = x.apart(m, CHANGES);
        tell(from);
        if (from == FolderRows.NONE) {
            x.let(m);
        } else {
            x.apart(m, from);
        }
    }

    private void tellFiles(int m) {
        tell(x.pieces(m, 0, 0));
        tell(x.pieces(m, 1, 0));
        for (int t = 0; t < THINGS; t++) {
            tell(x.pieces(m, 2, t));
            for (int row = 0; row < ROWS; row++) {
                for (int what = -1; what < BYTES; what++) {
                    tell(x.bytes(m, t, row, what));
                }
            }
            for (int name = 0; name < NAMES; name++) {
                tell(x.find(m, t, name));
            }
        }
    }

    private void tellTree(int m, int day) {
        tell(x.things(m, day));
        tell(x.sum(m, day));
        tell(x.odd(m, day, 0));
        tell(x.odd(m, day, 1));
        for (int t = 0; t < THINGS; t++) {
            for (int what = 0; what < 4; what++) {
                tell(x.thing(m, t, day, what));
            }
            for (int person = 0; person < PERSONS; person++) {
                tell(x.could(person, m, t, day));
            }
        }
    }
}
