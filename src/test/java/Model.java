import java.util.ArrayList;
import java.util.HashMap;
import java.util.HashSet;
import java.util.LinkedHashMap;
import java.util.List;
import java.util.Map;
import java.util.Set;

/**
 * The document in its plainest words, slow and with the Java library, to compare the class with:
 * matchings by trying every next pair, foretelling by replaying a copy, aborting by going back to
 * a copy. Each public method bears the name of the class's method that it stands for.
 */
final class Model {
    static final int UNKNOWN = -1, OUTSIDE = -2, STATE = -3, FULL = -4, NONE = -9;

    /** A commit as an object, whose identity a slot keeps. */
    private static final class Entry {
        final int kind;
        final int parent;
        final int origin;
        List<Integer> row;

        Entry(int kind, int parent, int origin, List<Integer> row) {
            this.kind = kind;
            this.parent = parent;
            this.origin = origin;
            this.row = row;
        }
    }

    private record Piece(List<Integer> out, List<Integer> in) {
    }

    private record Shape(List<Integer> numbers, Map<Integer, Integer> names) {
    }

    private record Clash(List<Integer> base, List<Integer> ours, List<Integer> theirs) {
        private Shape shape(List<Integer> first, List<Integer> second) {
            List<Integer> numbers = new ArrayList<>();
            Map<Integer, Integer> names = new LinkedHashMap<>();
            for (List<Integer> part : List.of(base, first, second)) {
                numbers.add(part.size());
                for (int line : part) {
                    names.putIfAbsent(line, names.size());
                    numbers.add(names.get(line));
                }
            }
            return new Shape(numbers, names);
        }

        boolean theirsFirst() {
            List<Integer> one = shape(ours, theirs).numbers;
            List<Integer> other = shape(theirs, ours).numbers;
            for (int i = 0; i < one.size(); i++) {
                int order = Integer.compare(other.get(i), one.get(i));
                if (order != 0) {
                    return order < 0;
                }
            }
            return false;
        }

        Shape shape() {
            return theirsFirst() ? shape(theirs, ours) : shape(ours, theirs);
        }
    }

    private record Resolution(List<Integer> shape, List<Integer> row) {
    }

    private record Merged(int conflicts, List<Clash> open, List<Integer> result) {
    }

    private List<Entry> commits = new ArrayList<>();
    private int[] branches = new int[4];
    private List<Resolution> resolutions = new ArrayList<>();
    private int[] figures = new int[4];

    private boolean underWay = false;
    private int stop = 0;
    private int branch = 0;
    private int onto = 0;
    private int top = 0;
    private List<Integer> todo = new ArrayList<>();
    private Model before = null;

    /** null, a byte[], an int[] or an Entry. */
    private final Object[] slots = new Object[5];
    private int trace = 0;
    private int fault = 0;

    Model() {
        makeFirst();
    }

    private Model copyOfHistory() {
        Model copy = new Model();
        copy.commits = new ArrayList<>();
        for (Entry e : commits) {
            copy.commits.add(new Entry(e.kind, e.parent, e.origin, e.row));
        }
        copy.branches = branches.clone();
        copy.resolutions = new ArrayList<>(resolutions);
        copy.figures = figures.clone();
        return copy;
    }

    private void leave(int... numbers) {
        for (int number : numbers) {
            trace = 31 * trace + number;
        }
    }

    private void makeFirst() {
        commits = new ArrayList<>();
        make(0, NONE, NONE, List.of());
        branches = new int[4];
    }

    private int make(int kind, int parent, int origin, List<Integer> row) {
        leave(1, 2);
        if (origin == NONE) {
            leave(7);
        }
        if (kind >= 1) {
            leave(3, 4);
        }
        if (kind == 2) {
            leave(5, 6);
        }
        commits.add(new Entry(kind, parent, origin, row));
        return commits.size() - 1;
    }

    // ---- what the generator of runs asks

    int commitCount() {
        return commits.size();
    }

    List<Integer> rowOf(int c) {
        return commits.get(c).row;
    }

    int openNow() {
        return underWay ? mergeHere().open.size() : 0;
    }

    boolean isUnderWay() {
        return underWay;
    }

    List<Integer> linesInConflict(int k) {
        Clash clash = mergeHere().open.get(k);
        List<Integer> lines = new ArrayList<>(clash.base);
        lines.addAll(clash.ours);
        lines.addAll(clash.theirs);
        return lines;
    }

    // ---- paths

    private boolean isCommit(int c) {
        return c >= 0 && c < commits.size();
    }

    private List<Integer> path(int c) {
        List<Integer> path = new ArrayList<>();
        for (int p = c; p != NONE; p = commits.get(p).parent) {
            path.add(0, p);
        }
        return path;
    }

    private List<Integer> pathWithout(int c, int d) {
        List<Integer> path = path(c);
        path.removeAll(path(d));
        return path;
    }

    // ---- matchings and changes

    private static final Map<List<List<Integer>>, List<int[]>> MATCHINGS = new HashMap<>();

    private static List<int[]> matching(List<Integer> first, List<Integer> second) {
        List<List<Integer>> key = List.of(List.copyOf(first), List.copyOf(second));
        if (MATCHINGS.size() > 20000) {
            MATCHINGS.clear();
        }
        List<int[]> known = MATCHINGS.get(key);
        if (known == null) {
            known = bestFrom(first, second, 0, 0, new HashMap<>());
            MATCHINGS.put(key, known);
        }
        return known;
    }

    /** Pairs are tried by increasing i, then j: of equally long ones the first found stays. */
    private static List<int[]> bestFrom(List<Integer> first, List<Integer> second, int i, int j,
            Map<Integer, List<int[]>> memo) {
        int key = i * 100 + j;
        if (memo.containsKey(key)) {
            return memo.get(key);
        }
        List<int[]> best = new ArrayList<>();
        for (int a = i; a < first.size(); a++) {
            for (int b = j; b < second.size(); b++) {
                if (first.get(a).equals(second.get(b))) {
                    List<int[]> rest = bestFrom(first, second, a + 1, b + 1, memo);
                    if (rest.size() + 1 > best.size()) {
                        best = new ArrayList<>();
                        best.add(new int[] {a, b});
                        best.addAll(rest);
                    }
                }
            }
        }
        memo.put(key, best);
        return best;
    }

    private List<Piece> change(int c) {
        List<Piece> pieces = new ArrayList<>();
        if (commits.get(c).parent == NONE) {
            return pieces;
        }
        List<Integer> old = commits.get(commits.get(c).parent).row;
        List<Integer> own = commits.get(c).row;
        List<int[]> pairs = new ArrayList<>(matching(old, own));
        pairs.add(new int[] {old.size(), own.size()});
        int i = 0;
        int j = 0;
        for (int[] pair : pairs) {
            Piece piece = new Piece(old.subList(i, pair[0]), own.subList(j, pair[1]));
            if (!piece.out.isEmpty() || !piece.in.isEmpty()) {
                pieces.add(piece);
            }
            i = pair[0] + 1;
            j = pair[1] + 1;
        }
        return pieces;
    }

    // ---- merging

    private Merged merged(List<Integer> base, List<Integer> ours, List<Integer> theirs, boolean resolve) {
        Map<Integer, Integer> inOurs = new HashMap<>();
        matching(base, ours).forEach(pair -> inOurs.put(pair[0], pair[1]));
        Map<Integer, Integer> inTheirs = new HashMap<>();
        matching(base, theirs).forEach(pair -> inTheirs.put(pair[0], pair[1]));
        Set<Integer> stable = new HashSet<>(inOurs.keySet());
        stable.retainAll(inTheirs.keySet());
        inOurs.put(base.size(), ours.size());
        inTheirs.put(base.size(), theirs.size());
        stable.add(base.size());

        int conflicts = 0;
        List<Clash> open = new ArrayList<>();
        List<Integer> result = new ArrayList<>();
        int i = 0;
        int j = 0;
        int k = 0;
        for (int end : stable.stream().sorted().toList()) {
            List<Integer> b = base.subList(i, end);
            List<Integer> o = ours.subList(j, inOurs.get(end));
            List<Integer> t = theirs.subList(k, inTheirs.get(end));
            if (o.equals(b)) {
                result.addAll(t);
            } else if (t.equals(b) || t.equals(o)) {
                result.addAll(o);
            } else {
                conflicts++;
                Clash clash = new Clash(List.copyOf(b), List.copyOf(o), List.copyOf(t));
                List<Integer> row = resolve ? resolved(clash) : null;
                if (row == null) {
                    open.add(clash);
                } else {
                    result.addAll(row);
                }
            }
            if (end < base.size()) {
                result.add(base.get(end));
            }
            i = end + 1;
            j = inOurs.get(end) + 1;
            k = inTheirs.get(end) + 1;
        }
        return new Merged(conflicts, open, result);
    }

    private List<Integer> resolved(Clash clash) {
        Shape shape = clash.shape();
        for (Resolution r : resolutions) {
            if (r.shape.equals(shape.numbers)) {
                List<Integer> row = new ArrayList<>();
                for (int number : r.row) {
                    if (number >= 100) {
                        row.add(number - 100);
                    }
                    shape.names.forEach((line, name) -> {
                        if (name == number) {
                            row.add(line);
                        }
                    });
                }
                return row;
            }
        }
        return null;
    }

    private Merged mergeHere() {
        Entry c = commits.get(todo.get(0));
        return merged(commits.get(c.parent).row, commits.get(top).row, c.row, true);
    }

    // ---- the methods

    public int commit(int branch, int kind, int slot) {
        fault = 0;
        if (branch < 0 || branch > 3 || slot < 0 || slot > 4) {
            return UNKNOWN;
        }
        if (kind < 0 || kind > 2) {
            return OUTSIDE;
        }
        if (underWay) {
            return STATE;
        }
        if (slots[slot] != null && !(slots[slot] instanceof byte[])) {
            return fail(2);
        }
        if (slots[slot] == null) {
            return fail(1);
        }
        List<Integer> row = list((byte[]) slots[slot]);
        if (row.size() > 16 || row.stream().anyMatch(line -> line < 0 || line > 99)) {
            return OUTSIDE;
        }
        if (commits.size() == 24) {
            return FULL;
        }
        branches[branch] = make(kind, branches[branch], NONE, row);
        return branches[branch];
    }

    private static List<Integer> list(byte[] bytes) {
        List<Integer> row = new ArrayList<>();
        for (byte b : bytes) {
            row.add((int) b);
        }
        return row;
    }

    private int fail(int which) {
        fault = which;
        return -10 - which;
    }

    private static int at(List<Integer> list, int i) {
        return i < list.size() ? list.get(i) : NONE;
    }

    private static boolean among(int what, int from, int to) {
        return what >= from && what <= to;
    }

    public int ofCommit(int c, int what) {
        if (!isCommit(c)) {
            return UNKNOWN;
        }
        Entry e = commits.get(c);
        if (among(what, 10, 25)) {
            return at(e.row, what - 10);
        }
        return switch (what) {
            case 0 -> e.kind;
            case 1 -> e.parent;
            case 2 -> e.row.size();
            case 3 -> change(c).size();
            case 4 -> path(c).size();
            case 5 -> e.origin;
            default -> OUTSIDE;
        };
    }

    public int piece(int c, int k, int what) {
        if (!isCommit(c) || k < 0 || k >= change(c).size()) {
            return UNKNOWN;
        }
        Piece piece = change(c).get(k);
        if (what == 0) {
            return piece.out.size();
        }
        if (what == 1) {
            return piece.in.size();
        }
        if (among(what, 10, 25)) {
            return at(piece.out, what - 10);
        }
        return among(what, 30, 45) ? at(piece.in, what - 30) : OUTSIDE;
    }

    private static int s(int line) {
        return line == 0 ? 7 : (73 * s(line - 1) + 29) % 1009;
    }

    public int mark(int c) {
        if (!isCommit(c)) {
            return UNKNOWN;
        }
        List<Integer> numbers = new ArrayList<>();
        for (Piece piece : change(c)) {
            numbers.add(piece.out.size());
            piece.out.forEach(line -> numbers.add(s(line)));
            numbers.add(piece.in.size());
            piece.in.forEach(line -> numbers.add(s(line)));
        }
        int hash = change(c).size();
        for (int number : numbers) {
            hash = 31 * hash + number;
        }
        return hash;
    }

    public int alike(int c, int d) {
        if (!isCommit(c) || !isCommit(d)) {
            return UNKNOWN;
        }
        return change(c).equals(change(d)) ? 1 : 0;
    }

    public int fork(int c, int d) {
        if (!isCommit(c) || !isCommit(d)) {
            return UNKNOWN;
        }
        List<Integer> both = path(c);
        both.retainAll(path(d));
        return both.get(both.size() - 1);
    }

    public int ahead(int c, int d) {
        return isCommit(c) && isCommit(d) ? pathWithout(c, d).size() : UNKNOWN;
    }

    public int swaps(int c) {
        if (!isCommit(c)) {
            return UNKNOWN;
        }
        if (c == 0 || commits.get(c).parent == 0) {
            return STATE;
        }
        List<Integer> own = commits.get(c).row;
        int parent = commits.get(c).parent;
        List<Integer> parentRow = commits.get(parent).row;
        List<Integer> grandRow = commits.get(commits.get(parent).parent).row;
        Merged x = merged(parentRow, grandRow, own, false);
        if (x.conflicts > 0 || x.result.size() > 16) {
            return 0;
        }
        Merged y = merged(grandRow, x.result, parentRow, false);
        return y.conflicts == 0 && y.result.equals(own) ? 1 : 0;
    }

    public int tip(int branch) {
        return among(branch, 0, 3) ? branches[branch] : UNKNOWN;
    }

    public int point(int branch, int c) {
        if (!among(branch, 0, 3) || !isCommit(c)) {
            return UNKNOWN;
        }
        if (underWay) {
            return STATE;
        }
        int old = branches[branch];
        branches[branch] = c;
        return old;
    }

    public int anew() {
        if (underWay) {
            return STATE;
        }
        int count = commits.size();
        makeFirst();
        resolutions.clear();
        figures = new int[4];
        return count;
    }

    public int merge(int base, int ours, int theirs, int what) {
        if (!isCommit(base) || !isCommit(ours) || !isCommit(theirs)) {
            return UNKNOWN;
        }
        if (!among(what, 0, 2) && !among(what, 10, 25)) {
            return OUTSIDE;
        }
        Merged m = merged(commits.get(base).row, commits.get(ours).row, commits.get(theirs).row, true);
        if (what == 0) {
            return m.conflicts;
        }
        if (what == 1) {
            return m.open.size();
        }
        if (!m.open.isEmpty()) {
            return NONE;
        }
        return what == 2 ? m.result.size() : at(m.result, what - 10);
    }

    public int resolution(int k, int what) {
        if (k < 0 || k >= resolutions.size()) {
            return UNKNOWN;
        }
        Resolution r = resolutions.get(k);
        if (what == 0) {
            return r.shape.size();
        }
        if (what == 1) {
            return r.row.size();
        }
        if (among(what, 10, 60)) {
            return at(r.shape, what - 10);
        }
        return among(what, 70, 75) ? at(r.row, what - 70) : OUTSIDE;
    }

    public int forget(int k) {
        if (k < 0 || k >= resolutions.size()) {
            return UNKNOWN;
        }
        resolutions.remove(k);
        return resolutions.size();
    }

    private int replayError(int branch, int onto, boolean whatIsWrong) {
        if (!among(branch, 0, 3) || !isCommit(onto)) {
            return UNKNOWN;
        }
        if (whatIsWrong) {
            return OUTSIDE;
        }
        if (underWay) {
            return STATE;
        }
        return commits.size() + ahead(branches[branch], onto) > 24 ? FULL : 0;
    }

    public int replay(int branch, int onto) {
        int error = replayError(branch, onto, false);
        if (error != 0) {
            return error;
        }
        before = copyOfHistory();
        figures = new int[4];
        underWay = true;
        this.branch = branch;
        this.onto = onto;
        top = onto;
        todo = pathWithout(branches[branch], onto);
        return run(true);
    }

    private int run(boolean firstStep) {
        boolean whole = firstStep;
        while (!todo.isEmpty()) {
            int c = todo.get(0);
            Entry e = commits.get(c);
            boolean there = false;
            if (whole && e.kind == 0) {
                for (int d : pathWithout(onto, branches[branch])) {
                    there |= change(d).equals(change(c));
                }
            }
            whole = true;
            if (there) {
                figures[1]++;
                todo.remove(0);
                continue;
            }
            Merged m = mergeHere();
            if (!m.open.isEmpty() || m.result.size() > 16) {
                stop = m.open.isEmpty() ? 2 : 1;
                return stop;
            }
            figures[3] += m.conflicts;
            if (m.result.equals(commits.get(top).row) && e.kind == 0) {
                figures[1]++;
            } else if (e.kind == 2 && top != onto) {
                commits.get(top).row = m.result;
                figures[2]++;
            } else {
                top = make(e.kind, top, c, m.result);
                figures[0]++;
            }
            todo.remove(0);
        }
        branches[branch] = top;
        underWay = false;
        stop = 0;
        return 0;
    }

    public int go() {
        return underWay ? run(false) : STATE;
    }

    public int skip() {
        if (!underWay) {
            return STATE;
        }
        todo.remove(0);
        figures[1]++;
        return run(true);
    }

    public int abort() {
        if (!underWay) {
            return STATE;
        }
        int gone = commits.size() - before.commits.size();
        // The entries that stay are the old objects: a slot may hold one of them.
        commits = new ArrayList<>(commits.subList(0, before.commits.size()));
        branches = before.branches;
        resolutions = before.resolutions;
        figures = before.figures;
        underWay = false;
        stop = 0;
        return gone;
    }

    public int status(int what) {
        return switch (what) {
            case 0 -> stop;
            case 1 -> underWay ? todo.get(0) : NONE;
            case 2, 3, 4, 5 -> figures[what - 2];
            case 6 -> underWay ? todo.size() - 1 : 0;
            case 7 -> openNow();
            case 8 -> underWay ? top : NONE;
            default -> OUTSIDE;
        };
    }

    public int conflict(int k, int what) {
        if (!underWay || k < 0 || k >= openNow()) {
            return UNKNOWN;
        }
        Clash clash = mergeHere().open.get(k);
        if (among(what, 10, 25)) {
            return at(clash.base, what - 10);
        }
        if (among(what, 30, 45)) {
            return at(clash.ours, what - 30);
        }
        if (among(what, 50, 65)) {
            return at(clash.theirs, what - 50);
        }
        if (among(what, 70, 120)) {
            return at(clash.shape().numbers, what - 70);
        }
        return switch (what) {
            case 0 -> clash.base.size();
            case 1 -> clash.ours.size();
            case 2 -> clash.theirs.size();
            case 3 -> clash.shape().numbers.size();
            case 4 -> clash.theirsFirst() ? 1 : 0;
            default -> OUTSIDE;
        };
    }

    public int settle(int k, int slot) {
        fault = 0;
        if (!underWay || k < 0 || k >= openNow() || !among(slot, 0, 4)) {
            return UNKNOWN;
        }
        if (slots[slot] != null && !(slots[slot] instanceof byte[])) {
            return fail(2);
        }
        if (slots[slot] == null) {
            return fail(1);
        }
        List<Integer> row = list((byte[]) slots[slot]);
        if (row.size() > 6 || row.stream().anyMatch(line -> line < 0 || line > 99)) {
            return OUTSIDE;
        }
        if (resolutions.size() == 8) {
            return FULL;
        }
        Shape shape = mergeHere().open.get(k).shape();
        List<Integer> numbers = row.stream().map(line -> shape.names.getOrDefault(line, 100 + line)).toList();
        resolutions.add(new Resolution(shape.numbers, numbers));
        return resolutions.size();
    }

    public int foretell(int branch, int onto, int what) {
        int error = replayError(branch, onto, !among(what, 0, 5) && !among(what, 10, 25));
        if (error != 0) {
            return error;
        }
        Model copy = copyOfHistory();
        int outcome = copy.replay(branch, onto);
        List<Integer> row = copy.commits.get(copy.top).row;
        return switch (what) {
            case 0 -> outcome;
            case 1 -> copy.status(2);
            case 2 -> copy.status(3);
            case 3 -> copy.status(1);
            case 4 -> copy.status(7);
            case 5 -> row.size();
            default -> at(row, what - 10);
        };
    }

    public int blank(int slot, int sort, int n) {
        fault = 0;
        if (!among(slot, 0, 4)) {
            return UNKNOWN;
        }
        if (!among(sort, 0, 1) || n > 24) {
            return OUTSIDE;
        }
        if (n < 0) {
            return fail(4);
        }
        slots[slot] = sort == 0 ? new byte[n] : new int[n];
        return 1;
    }

    public int show(int slot, int c) {
        if (!among(slot, 0, 4) || !isCommit(c)) {
            return UNKNOWN;
        }
        List<Integer> row = commits.get(c).row;
        byte[] bytes = new byte[row.size()];
        for (int i = 0; i < bytes.length; i++) {
            bytes[i] = row.get(i).byteValue();
        }
        slots[slot] = bytes;
        return bytes.length;
    }

    public int trail(int slot, int c) {
        if (!among(slot, 0, 4) || !isCommit(c)) {
            return UNKNOWN;
        }
        slots[slot] = path(c).stream().mapToInt(Integer::intValue).toArray();
        return path(c).size();
    }

    public int hold(int slot, int c) {
        if (!among(slot, 0, 4) || !isCommit(c)) {
            return UNKNOWN;
        }
        slots[slot] = commits.get(c);
        return 1;
    }

    public int held(int slot) {
        fault = 0;
        if (!among(slot, 0, 4)) {
            return UNKNOWN;
        }
        if (slots[slot] == null) {
            return fail(1);
        }
        if (!(slots[slot] instanceof Entry)) {
            return fail(2);
        }
        int number = commits.indexOf(slots[slot]);
        return number < 0 ? NONE : number;
    }

    public int as(int slot, int sort) {
        fault = 0;
        if (!among(slot, 0, 4)) {
            return UNKNOWN;
        }
        if (!among(sort, 0, 4)) {
            return OUTSIDE;
        }
        Object it = slots[slot];
        if (it == null) {
            return fail(1);
        }
        boolean fits = switch (sort) {
            case 0 -> it instanceof byte[];
            case 1 -> it instanceof int[];
            default -> it instanceof Entry e && e.kind >= sort - 2;
        };
        return fits ? 1 : fail(2);
    }

    public int lose(int slot) {
        if (!among(slot, 0, 4)) {
            return UNKNOWN;
        }
        boolean was = slots[slot] != null;
        slots[slot] = null;
        return was ? 1 : 0;
    }

    public int write(int slot, int i, int v) {
        fault = 0;
        if (!among(slot, 0, 4)) {
            return UNKNOWN;
        }
        if (slots[slot] instanceof Entry) {
            return fail(2);
        }
        if (slots[slot] == null) {
            return fail(1);
        }
        if (i < 0 || i >= lengthOf(slots[slot])) {
            return fail(3);
        }
        if (slots[slot] instanceof byte[] bytes) {
            bytes[i] = (byte) v;
        } else {
            ((int[]) slots[slot])[i] = v;
        }
        return 1;
    }

    private static int lengthOf(Object array) {
        return java.lang.reflect.Array.getLength(array);
    }

    public long number(int slot, int i) {
        fault = 0;
        if (!among(slot, 0, 4)) {
            return Long.MIN_VALUE;
        }
        Object it = slots[slot];
        fault = it instanceof Entry ? 2 : it == null ? 1 : i < 0 || i >= lengthOf(it) ? 3 : 0;
        return fault == 0 ? java.lang.reflect.Array.getLong(it, i) : Long.MIN_VALUE;
    }

    public int copy(int slot, int i, int other, int j, int n) {
        fault = 0;
        if (!among(slot, 0, 4) || !among(other, 0, 4)) {
            return UNKNOWN;
        }
        Object from = slots[slot];
        Object to = slots[other];
        if (from == null || to == null) {
            return fail(1);
        }
        if (from instanceof Entry || to instanceof Entry || from.getClass() != to.getClass()) {
            return fail(2);
        }
        if (i < 0 || j < 0 || n < 0 || (long) i + n > lengthOf(from) || (long) j + n > lengthOf(to)) {
            return fail(3);
        }
        long[] between = new long[n];
        for (int k = 0; k < n; k++) {
            between[k] = java.lang.reflect.Array.getLong(from, i + k);
        }
        for (int k = 0; k < n; k++) {
            if (to instanceof byte[] bytes) {
                bytes[j + k] = (byte) between[k];
            } else {
                ((int[]) to)[j + k] = (int) between[k];
            }
        }
        return n;
    }

    public int tell(int c) {
        if (!isCommit(c)) {
            return UNKNOWN;
        }
        Entry e = commits.get(c);
        if (e.kind > 0) {
            leave(11 + e.kind);
        }
        leave(11);
        return e.row.size() + 100 * e.kind;
    }

    public int trace() {
        return trace;
    }

    public int fault() {
        return fault;
    }

    public int many(int what) {
        Set<Integer> reached = new HashSet<>();
        for (int tip : branches) {
            reached.addAll(path(tip));
        }
        int filled = 0;
        for (Object slot : slots) {
            filled += slot == null ? 0 : 1;
        }
        return switch (what) {
            case 0 -> commits.size();
            case 1 -> resolutions.size();
            case 2 -> reached.size();
            case 3 -> filled;
            default -> OUTSIDE;
        };
    }
}
