import java.util.ArrayList;
import java.util.Arrays;
import java.util.Collections;
import java.util.Comparator;
import java.util.HashMap;
import java.util.HashSet;
import java.util.LinkedHashSet;
import java.util.List;
import java.util.Map;
import java.util.Set;
import java.util.TreeSet;

/**
 * The document's words once more, as plain sets and lists and without a thought for cost: what
 * FolderRows answers is held against what this answers. It shares no code with FolderRows.
 */
final class Model {
    private static final int BAD = -1, STATE = -2, FULL = -3, NONE = -9;

    static final class Made {
        int machine, number, what, thing, kind, folder, name, day;
        List<Integer> bytes = List.of();
        Set<Made> ground = new HashSet<>();

        int height() {
            int greatest = 0;
            for (Made g : ground) {
                greatest = Math.max(greatest, g.heightKept);
            }
            return 1 + greatest;
        }

        int heightKept;
    }

    static final class Thing {
        boolean folderKind, there;
        int number, folder, wish, name;
        Made placed;
        List<Made> rows = new ArrayList<>();
    }

    static final class Share {
        int person, thing, begun, taken = Integer.MAX_VALUE;
    }

    private static final Comparator<Made> ORDER =
        Comparator.<Made>comparingInt(m -> m.heightKept).thenComparingInt(m -> m.machine);

    private int n, rules, day;
    private long trace;
    private List<List<Made>> rows;
    private List<Set<Made>> knows;
    private Map<String, Set<Made>> ends;
    private List<Set<List<Integer>>> pieces;
    private int[] room, apart;
    private List<Share> shares;

    Model() {
        begin(2);
    }

    private void begin(int machines) {
        n = machines;
        day = 0;
        rows = new ArrayList<>();
        knows = new ArrayList<>();
        pieces = new ArrayList<>();
        ends = new HashMap<>();
        shares = new ArrayList<>();
        room = new int[n];
        apart = new int[n];
        Arrays.fill(room, 20);
        Arrays.fill(apart, NONE);
        for (int m = 0; m < n; m++) {
            rows.add(new ArrayList<>());
            knows.add(new HashSet<>());
            pieces.add(new HashSet<>());
        }
    }

    private boolean in(int v, int low, int high) {
        return low <= v && v <= high;
    }

    private boolean isM(int m) {
        return in(m, 0, n - 1);
    }

    private Set<Made> leftOut() {
        Set<Made> out = new HashSet<>();
        for (int m = 0; m < n; m++) {
            if (apart[m] != NONE) {
                for (int i = apart[m]; i < rows.get(m).size(); i++) {
                    out.add(rows.get(m).get(i));
                }
            }
        }
        boolean more = true;
        while (more) {
            more = false;
            for (List<Made> row : rows) {
                for (Made c : row) {
                    if (!out.contains(c) && !Collections.disjoint(c.ground, out)) {
                        out.add(c);
                        more = true;
                    }
                }
            }
        }
        return out;
    }

    private Thing[] tree(int m, int d) {
        List<Made> known = new ArrayList<>(d == day ? knows.get(m) : ends.get(d + "/" + m));
        known.removeAll(leftOut());
        known.sort(ORDER);
        Thing[] tree = new Thing[12];
        tree[0] = new Thing();
        tree[0].there = true;
        tree[0].folderKind = true;
        for (Made c : known) {
            apply(tree, c);
        }
        name(tree, known);
        return tree;
    }

    private static boolean there(Thing[] tree, int t) {
        return tree[t] != null && tree[t].there;
    }

    private static boolean isFolder(Thing[] tree, int t) {
        return there(tree, t) && tree[t].folderKind;
    }

    private static boolean isFile(Thing[] tree, int t) {
        return there(tree, t) && !tree[t].folderKind;
    }

    private static Set<Integer> around(Thing[] tree, int t) {
        Set<Integer> found = new LinkedHashSet<>();
        while (t != 0) {
            t = tree[t].folder;
            if (!found.add(t)) {
                throw new IllegalStateException("a folder has come into itself");
            }
        }
        return found;
    }

    private static boolean moves(Thing[] tree, int t, int f) {
        return t != 0 && there(tree, t) && isFolder(tree, f) && t != f && !around(tree, f).contains(t);
    }

    private void apply(Thing[] tree, Made c) {
        Thing t = tree[c.thing];
        if (c.what == 0 && t == null) {
            t = new Thing();
            t.number = c.thing;
            t.there = true;
            t.folderKind = c.kind == 2;
            t.folder = isFolder(tree, c.folder) ? c.folder : 0;
            t.wish = c.name;
            t.placed = c;
            tree[c.thing] = t;
        } else if (c.what == 1 && moves(tree, c.thing, c.folder)) {
            t.folder = c.folder;
            t.wish = c.name;
            t.placed = c;
        } else if (c.what == 2 && c.thing != 0 && there(tree, c.thing)) {
            List<Thing> going = new ArrayList<>();
            for (Thing other : tree) {
                if (other != null && other.there && other.number != 0
                        && (other == t || around(tree, other.number).contains(c.thing))) {
                    going.add(other);
                }
            }
            for (Thing other : going) {
                other.there = false;
            }
        } else if (c.what == 3 && t != null && !t.folderKind) {
            if (!t.there && (rules & 1) != 0) {
                t.there = true;
                if (!isFolder(tree, t.folder)) {
                    t.folder = 0;
                }
            }
            if (t.there) {
                t.rows.removeIf(c.ground::contains);
                t.rows.add(c);
            }
        }
    }

    private void name(Thing[] tree, List<Made> order) {
        List<Made> turn = new ArrayList<>(order);
        if ((rules & 2) == 0) {
            Collections.reverse(turn);
        }
        Map<Integer, Set<Integer>> used = new HashMap<>();
        List<Thing> later = new ArrayList<>();
        for (Made c : turn) {
            Thing t = tree[c.thing];
            if (t != null && t.there && t.placed == c) {
                if (used.computeIfAbsent(t.folder, f -> new HashSet<>()).add(t.wish)) {
                    t.name = t.wish;
                } else {
                    later.add(t);
                }
            }
        }
        for (Thing t : later) {
            int name = 10;
            while (!used.get(t.folder).add(name)) {
                name++;
            }
            t.name = name;
        }
    }

    int machines(int machines) {
        if (!in(machines, 1, 4)) {
            return BAD;
        }
        int before = n;
        begin(machines);
        return before;
    }

    int rules(int bits) {
        if (!in(bits, 0, 3)) {
            return BAD;
        }
        int before = rules;
        rules = bits;
        return before;
    }

    private Made add(int m, int what, int thing) {
        Made c = new Made();
        c.machine = m;
        c.number = rows.get(m).size();
        c.what = what;
        c.thing = thing;
        c.day = day;
        c.ground.addAll(knows.get(m));
        c.heightKept = c.height();
        rows.get(m).add(c);
        knows.get(m).add(c);
        return c;
    }

    private boolean full(int m) {
        return rows.get(m).size() == 20;
    }

    int make(int m, int kind, int folder, int name) {
        if (!isM(m) || !in(kind, 1, 2) || !in(folder, 0, 11) || !in(name, 0, 9)) {
            return BAD;
        }
        if (!isFolder(tree(m, day), folder)) {
            return STATE;
        }
        Set<Integer> numbers = new TreeSet<>();
        for (Made c : knows.get(m)) {
            if (c.what == 0) {
                numbers.add(c.thing);
            }
        }
        int least = 1;
        while (numbers.contains(least)) {
            least++;
        }
        if (least > 11 || full(m)) {
            return FULL;
        }
        Made c = add(m, 0, least);
        c.kind = kind;
        c.folder = folder;
        c.name = name;
        return least;
    }

    int move(int m, int thing, int folder, int name) {
        if (!isM(m) || !in(thing, 0, 11) || !in(folder, 0, 11) || !in(name, 0, 9)) {
            return BAD;
        }
        if (!moves(tree(m, day), thing, folder)) {
            return STATE;
        }
        if (full(m)) {
            return FULL;
        }
        Made c = add(m, 1, thing);
        c.folder = folder;
        c.name = name;
        return c.number;
    }

    int gone(int m, int thing) {
        if (!isM(m) || !in(thing, 0, 11)) {
            return BAD;
        }
        if (thing == 0 || !there(tree(m, day), thing)) {
            return STATE;
        }
        return full(m) ? FULL : add(m, 2, thing).number;
    }

    private static Set<List<Integer>> cut(List<Integer> row) {
        Set<List<Integer>> found = new HashSet<>();
        List<Integer> piece = new ArrayList<>();
        for (int b : row) {
            piece.add(b);
            if (b % 4 == 3) {
                found.add(piece);
                piece = new ArrayList<>();
            }
        }
        if (!piece.isEmpty()) {
            found.add(piece);
        }
        return found;
    }

    private static int size(Set<List<Integer>> set) {
        int bytes = 0;
        for (List<Integer> piece : set) {
            bytes += piece.size();
        }
        return bytes;
    }

    int write(int m, int thing, long bytes, int length) {
        if (!isM(m) || !in(thing, 0, 11) || !in(length, 0, 8)) {
            return BAD;
        }
        if (!isFile(tree(m, day), thing)) {
            return STATE;
        }
        List<Integer> row = new ArrayList<>();
        for (int i = length - 1; i >= 0; i--) {
            row.add((int) ((bytes >> (8 * i)) & 0xFF));
        }
        Set<List<Integer>> then = new HashSet<>(pieces.get(m));
        then.addAll(cut(row));
        if (size(then) > room[m]) {
            return STATE;
        }
        if (full(m)) {
            return FULL;
        }
        pieces.set(m, then);
        Made c = add(m, 3, thing);
        c.bytes = row;
        return c.number;
    }

    int send(int from, int to) {
        if (!isM(from) || !isM(to) || from == to) {
            return BAD;
        }
        int before = knows.get(to).size();
        knows.get(to).addAll(knows.get(from));
        return knows.get(to).size() - before;
    }

    int sendSome(int from, int to, int k) {
        if (!isM(from) || !isM(to) || from == to || !in(k, 1, 20)) {
            return BAD;
        }
        int sent = 0;
        while (sent < k) {
            Made next = null;
            for (Made c : knows.get(from)) {
                if (!knows.get(to).contains(c) && knows.get(to).containsAll(c.ground)
                        && (next == null || ORDER.compare(c, next) < 0)) {
                    next = c;
                }
            }
            if (next == null) {
                break;
            }
            knows.get(to).add(next);
            sent++;
        }
        return sent;
    }

    int change(int m, int i, int what) {
        if (!isM(m) || !in(i, 0, rows.get(m).size() - 1) || !in(what, 0, 5)) {
            return BAD;
        }
        Made c = rows.get(m).get(i);
        int[] answers = {c.what, c.thing, c.heightKept, c.ground.size(), c.day, leftOut().contains(c) ? 1 : 0};
        return answers[what];
    }

    int thing(int m, int t, int d, int what) {
        if (!isM(m) || !in(t, 0, 11) || !in(d, 0, day) || !in(what, 0, 3)) {
            return BAD;
        }
        Thing[] tree = tree(m, d);
        if (!there(tree, t)) {
            return what == 0 ? NONE : STATE;
        }
        int kind = tree[t].folderKind ? 2 : tree[t].rows.size() > 1 ? 5 : 1;
        int[] answers = {kind, t == 0 ? NONE : tree[t].folder, tree[t].name, tree[t].rows.size()};
        return answers[what];
    }

    int bytes(int m, int t, int i, int what) {
        if (!isM(m) || !in(t, 0, 11)) {
            return BAD;
        }
        Thing[] tree = tree(m, day);
        if (!isFile(tree, t)) {
            return STATE;
        }
        if (!in(i, 0, tree[t].rows.size() - 1)) {
            return BAD;
        }
        List<Integer> row = tree[t].rows.get(i).bytes;
        if (what == -1) {
            return row.size();
        }
        return in(what, 0, row.size() - 1) ? row.get(what) : BAD;
    }

    int bulk(int kind, int m, int t) {
        if (!in(kind, 0, 5) || !isM(m) || !in(t, 0, 11)) {
            return BAD;
        }
        Thing[] tree = tree(m, day);
        if (!there(tree, t)) {
            return STATE;
        }
        int held = 0;
        for (Made row : tree[t].rows) {
            held += row.bytes.size();
        }
        int children = 0;
        for (int other = 1; other < 12; other++) {
            children += there(tree, other) && tree[other].folder == t ? 1 : 0;
        }
        int plain = 4 + tree[t].name;
        int[] comes = {1, 11, 101, 1001, 10011, 100011};
        int[] answers = {plain, plain + held, plain + 3 * children, plain / 2,
            plain + held - held / 2, plain + held + 5 * tree[t].rows.size()};
        trace += comes[kind];
        return answers[kind];
    }

    int things(int m, int d) {
        if (!isM(m) || !in(d, 0, day)) {
            return BAD;
        }
        Thing[] tree = tree(m, d);
        int found = 0;
        for (int t = 0; t < 12; t++) {
            found += there(tree, t) ? 1 : 0;
        }
        return found;
    }

    int find(int m, int folder, int name) {
        if (!isM(m) || !in(folder, 0, 11) || !in(name, 0, 22)) {
            return BAD;
        }
        Thing[] tree = tree(m, day);
        if (!isFolder(tree, folder)) {
            return STATE;
        }
        int found = NONE;
        for (int t = 1; t < 12; t++) {
            if (there(tree, t) && tree[t].folder == folder && tree[t].name == name) {
                if (found != NONE) {
                    throw new IllegalStateException("two things of one name");
                }
                found = t;
            }
        }
        return found;
    }

    int sum(int m, int d) {
        if (!isM(m) || !in(d, 0, day)) {
            return BAD;
        }
        Thing[] tree = tree(m, d);
        long total = 0;
        for (int t = 0; t < 12; t++) {
            if (there(tree, t)) {
                long marks = 31L * tree[t].folder + 7L * tree[t].name;
                for (Made row : tree[t].rows) {
                    for (int b : row.bytes) {
                        marks += b;
                    }
                }
                total += 1 + t * marks;
            }
        }
        return (int) (total % 1000003);
    }

    int differ(int a, int b) {
        if (!isM(a) || !isM(b)) {
            return BAD;
        }
        Set<Made> both = new HashSet<>(knows.get(a));
        both.retainAll(knows.get(b));
        return knows.get(a).size() + knows.get(b).size() - 2 * both.size();
    }

    int apart(int m, int from) {
        if (!isM(m) || !in(from, 0, 20)) {
            return BAD;
        }
        int before = apart[m];
        apart[m] = from;
        return before;
    }

    int let(int m) {
        if (!isM(m)) {
            return BAD;
        }
        if (apart[m] == NONE) {
            return STATE;
        }
        int before = apart[m];
        apart[m] = NONE;
        return before;
    }

    int taken(int m) {
        if (!isM(m)) {
            return BAD;
        }
        Set<Made> out = leftOut();
        out.retainAll(knows.get(m));
        return out.size();
    }

    int room(int m, int v) {
        if (!isM(m) || !in(v, 0, 200)) {
            return BAD;
        }
        if (size(pieces.get(m)) > v) {
            return STATE;
        }
        int before = room[m];
        room[m] = v;
        return before;
    }

    private static Set<List<Integer>> piecesOf(Thing t) {
        Set<List<Integer>> found = new HashSet<>();
        for (Made row : t.rows) {
            found.addAll(cut(row.bytes));
        }
        return found;
    }

    private boolean elsewhere(List<Integer> piece, int m) {
        for (int other = 0; other < n; other++) {
            if (other != m && pieces.get(other).contains(piece)) {
                return true;
            }
        }
        return false;
    }

    int pieces(int m, int what, int t) {
        if (!isM(m) || !in(what, 0, 2) || (what == 2 && !in(t, 0, 11))) {
            return BAD;
        }
        if (what < 2) {
            return what == 0 ? pieces.get(m).size() : size(pieces.get(m));
        }
        Thing[] tree = tree(m, day);
        if (!isFile(tree, t)) {
            return STATE;
        }
        Set<List<Integer>> lacking = piecesOf(tree[t]);
        lacking.removeAll(pieces.get(m));
        return lacking.size();
    }

    int fetch(int m, int t) {
        if (!isM(m) || !in(t, 0, 11)) {
            return BAD;
        }
        Thing[] tree = tree(m, day);
        if (!isFile(tree, t)) {
            return STATE;
        }
        Set<List<Integer>> lacking = piecesOf(tree[t]);
        lacking.removeAll(pieces.get(m));
        for (List<Integer> piece : lacking) {
            if (!elsewhere(piece, m)) {
                return STATE;
            }
        }
        if (size(lacking) + size(pieces.get(m)) > room[m]) {
            return STATE;
        }
        pieces.get(m).addAll(lacking);
        return size(lacking);
    }

    int away(int m, int t) {
        if (!isM(m) || !in(t, 0, 11)) {
            return BAD;
        }
        Thing[] tree = tree(m, day);
        if (!isFile(tree, t)) {
            return STATE;
        }
        Set<List<Integer>> going = piecesOf(tree[t]);
        going.retainAll(pieces.get(m));
        for (int other = 0; other < 12; other++) {
            if (other != t && isFile(tree, other)) {
                going.removeAll(piecesOf(tree[other]));
            }
        }
        for (List<Integer> piece : going) {
            if (!elsewhere(piece, m)) {
                return STATE;
            }
        }
        pieces.get(m).removeAll(going);
        return size(going);
    }

    int night() {
        if (day == 29) {
            return STATE;
        }
        for (int m = 0; m < n; m++) {
            ends.put(day + "/" + m, new HashSet<>(knows.get(m)));
        }
        return ++day;
    }

    int share(int person, int thing) {
        if (!in(person, 0, 7) || !in(thing, 0, 11)) {
            return BAD;
        }
        if (shares.size() == 20) {
            return FULL;
        }
        Share s = new Share();
        s.person = person;
        s.thing = thing;
        s.begun = day;
        shares.add(s);
        return shares.size() - 1;
    }

    int take(int share) {
        if (!in(share, 0, shares.size() - 1)) {
            return BAD;
        }
        Share s = shares.get(share);
        if (s.taken != Integer.MAX_VALUE) {
            return STATE;
        }
        s.taken = day;
        return s.begun;
    }

    int could(int person, int m, int t, int d) {
        if (!in(person, 0, 7) || !isM(m) || !in(t, 0, 11) || !in(d, 0, day)) {
            return BAD;
        }
        Thing[] tree = tree(m, d);
        if (!there(tree, t)) {
            return STATE;
        }
        for (Share s : shares) {
            if (s.person == person && s.begun <= d && s.taken > d
                    && (s.thing == t || around(tree, t).contains(s.thing))) {
                return 1;
            }
        }
        return 0;
    }

    long odd(int m, int d, int what) {
        if (!isM(m) || !in(d, 0, day) || !in(what, 0, 1)) {
            return BAD;
        }
        int made = rows.get(m).size();
        if (day + 1 > 8 || made > 12) {
            return STATE;
        }
        int k = 0;
        for (Made c : rows.get(m)) {
            k += c.day == d ? 1 : 0;
        }
        // ways[j]: deals so far in which the day has j
        long[] ways = new long[made + 1];
        ways[0] = 1;
        for (int i = 0; i < made; i++) {
            for (int j = i + 1; j >= 0; j--) {
                ways[j] = ways[j] * day + (j > 0 ? ways[j - 1] : 0);
            }
        }
        long answer = 0;
        for (int j = what == 1 ? 0 : k; j <= made; j++) {
            answer += ways[j];
        }
        return answer;
    }

    int count(int what) {
        int changes = 0;
        for (List<Made> row : rows) {
            changes += row.size();
        }
        int holding = 0;
        for (Share s : shares) {
            holding += s.taken == Integer.MAX_VALUE ? 1 : 0;
        }
        int[] answers = {n, changes, day, holding, rules, leftOut().size()};
        return in(what, 0, 5) ? answers[what] : BAD;
    }

    long trace() {
        return trace;
    }
}
