import java.util.Arrays;

/**
 * A small version control system: commits of a few lines, branches, three-way merges, recorded
 * conflict resolutions and replays. DOC.md gives each public method as a promise of its own.
 *
 * <p>All rows that a call needs while it runs are made once, with the object, and used again:
 * all calls of a run share one room.
 */
public final class CarriedCommits {
    public static final int UNKNOWN = -1, OUTSIDE = -2, STATE = -3, FULL = -4, NONE = -9;
    public static final long LOST = Long.MIN_VALUE;

    private static final int MOST_COMMITS = 24;
    private static final int MOST_LINES = 16;
    private static final int LINE_VALUES = 100;
    private static final int MOST_BRANCHES = 4;
    private static final int MOST_SLOTS = 5;
    private static final int MOST_ELEMENTS = 24;
    private static final int MOST_RESOLUTIONS = 8;
    private static final int MOST_RESOLVED_LINES = 6;

    private static final int MOST_GAPS = MOST_LINES + 1;
    private static final int MOST_SHAPE_NUMBERS = 3 + 3 * MOST_LINES;
    /** Stable lines, the gaps' lines of both sides, and a whole resolution in every gap. */
    private static final int MOST_MERGED_LINES = 3 * MOST_LINES + MOST_GAPS * MOST_RESOLVED_LINES;

    private static final int PLAIN = 0, KEPT = 1, FIX = 2;

    private static final int NO_FAULT = 0, NULL_FAULT = 1, CAST_FAULT = 2, INDEX_FAULT = 3, SIZE_FAULT = 4;

    /** The figures of a replay, in the order in which status() numbers them from 2 on. */
    private static final int MADE = 0, LEFT_OUT = 1, MELTED = 2, RESOLVED = 3, FIGURES = 4;

    private static final int[] NO_LINES = {};

    private final Trace track = new Trace();
    private final Plain[] commits = new Plain[MOST_COMMITS];
    private int commitCount;
    private final Plain[] tips = new Plain[MOST_BRANCHES];
    private final Slot[] slots = new Slot[MOST_SLOTS];
    private final Merger merger = new Merger();
    private final Matching change = new Matching();
    private final Matching otherChange = new Matching();
    private final Replay current;
    private final Replay rehearsal;
    private final int[] scramble = new int[LINE_VALUES];
    private int latestFault;

    public CarriedCommits() {
        for (int s = 0; s < MOST_SLOTS; s++) {
            slots[s] = new Slot();
        }
        scramble[0] = 7;
        for (int line = 1; line < LINE_VALUES; line++) {
            scramble[line] = (73 * scramble[line - 1] + 29) % 1009;
        }
        Plain first = makeFirstCommit();
        current = new Replay(first, null);
        rehearsal = new Replay(first, new Plain(new Trace(), 0, null, NO_LINES, null));
    }

    // ---- commits

    public int commit(int branch, int kind, int slot) {
        latestFault = NO_FAULT;
        Plain parent = tipOf(branch);
        Slot source = slotAt(slot);
        if (parent == null || source == null) {
            return UNKNOWN;
        }
        if (kind < PLAIN || kind > FIX) {
            return OUTSIDE;
        }
        if (isUnderWay()) {
            return STATE;
        }
        int fault = source.faultAsBytes();
        if (fault != NO_FAULT) {
            return failBy(fault);
        }
        if (!source.holdsLines(MOST_LINES)) {
            return OUTSIDE;
        }
        if (commitCount >= MOST_COMMITS) {
            return FULL;
        }
        Plain made = makeCommit(kind, parent, source.items.clone(), null);
        tips[branch] = made;
        return made.number;
    }

    public int ofCommit(int c, int what) {
        Plain it = commitAt(c);
        if (it == null) {
            return UNKNOWN;
        }
        switch (what) {
            case 0:
                return it.kind();
            case 1:
                return it.parent == null ? NONE : it.parent.number;
            case 2:
                return it.row.length;
            case 3:
                change.readChange(it);
                return change.pieces;
            case 4:
                return it.pathLength();
            case 5:
                return it.origin == null ? NONE : it.origin.number;
            default:
                return isLineIndex(what - 10) ? elementOr(it.row, what - 10) : OUTSIDE;
        }
    }

    public int piece(int c, int k, int what) {
        Plain it = commitAt(c);
        if (it == null) {
            return UNKNOWN;
        }
        change.readChange(it);
        if (k < 0 || k >= change.pieces) {
            return UNKNOWN;
        }
        Part out = change.outs[k];
        Part in = change.ins[k];
        if (what == 0) {
            return out.size;
        }
        if (what == 1) {
            return in.size;
        }
        if (what >= 30) {
            return isLineIndex(what - 30) ? in.lineAt(what - 30) : OUTSIDE;
        }
        return isLineIndex(what - 10) ? out.lineAt(what - 10) : OUTSIDE;
    }

    public int mark(int c) {
        Plain it = commitAt(c);
        if (it == null) {
            return UNKNOWN;
        }
        change.readChange(it);
        int hash = change.pieces;
        for (int k = 0; k < change.pieces; k++) {
            hash = hashPart(hashPart(hash, change.outs[k]), change.ins[k]);
        }
        return hash;
    }

    public int alike(int c, int d) {
        Plain one = commitAt(c);
        Plain other = commitAt(d);
        if (one == null || other == null) {
            return UNKNOWN;
        }
        change.readChange(one);
        otherChange.readChange(other);
        return change.hasSamePieces(otherChange) ? 1 : 0;
    }

    public int fork(int c, int d) {
        Plain one = commitAt(c);
        Plain other = commitAt(d);
        if (one == null || other == null) {
            return UNKNOWN;
        }
        for (Plain p = one; p != null; p = p.parent) {
            if (p.isOnPathOf(other)) {
                return p.number;
            }
        }
        return 0;
    }

    public int ahead(int c, int d) {
        Plain one = commitAt(c);
        Plain other = commitAt(d);
        return one == null || other == null ? UNKNOWN : one.countNotOnPathOf(other);
    }

    public int swaps(int c) {
        Plain it = commitAt(c);
        if (it == null) {
            return UNKNOWN;
        }
        Plain parent = it.parent;
        Plain grandparent = parent == null ? null : parent.parent;
        if (parent == null || grandparent == null) {
            return STATE;
        }
        merger.mergeRows(parent.row, grandparent.row, it.row, NONE);
        if (merger.conflicts > 0 || merger.size > MOST_LINES) {
            return 0;
        }
        int[] moved = merger.copyResult();
        merger.mergeRows(grandparent.row, moved, parent.row, NONE);
        return merger.conflicts == 0 && merger.resultEquals(it.row) ? 1 : 0;
    }

    public int tip(int branch) {
        Plain it = tipOf(branch);
        return it == null ? UNKNOWN : it.number;
    }

    public int point(int branch, int c) {
        Plain before = tipOf(branch);
        Plain it = commitAt(c);
        if (before == null || it == null) {
            return UNKNOWN;
        }
        if (isUnderWay()) {
            return STATE;
        }
        tips[branch] = it;
        return before.number;
    }

    public int anew() {
        if (isUnderWay()) {
            return STATE;
        }
        int before = commitCount;
        dropCommitsFrom(0);
        merger.resolutionCount = 0;
        Arrays.fill(current.figures, 0);
        makeFirstCommit();
        return before;
    }

    // ---- merging

    public int merge(int base, int ours, int theirs, int what) {
        Plain from = commitAt(base);
        Plain one = commitAt(ours);
        Plain other = commitAt(theirs);
        if (from == null || one == null || other == null) {
            return UNKNOWN;
        }
        if ((what < 0 || what > 2) && !isLineIndex(what - 10)) {
            return OUTSIDE;
        }
        merger.mergeRows(from.row, one.row, other.row, NONE);
        if (what == 0) {
            return merger.conflicts;
        }
        if (what == 1) {
            return merger.open;
        }
        if (merger.open > 0) {
            return NONE;
        }
        return what == 2 ? merger.size : merger.resultLine(what - 10);
    }

    public int resolution(int k, int what) {
        Resolution it = merger.resolutionAt(k);
        if (it == null) {
            return UNKNOWN;
        }
        if (what == 0) {
            return it.shape.length;
        }
        if (what == 1) {
            return it.row.length;
        }
        if (what >= 70 && what < 70 + MOST_RESOLVED_LINES) {
            return elementOr(it.row, what - 70);
        }
        return isShapeIndex(what - 10) ? elementOr(it.shape, what - 10) : OUTSIDE;
    }

    public int forget(int k) {
        if (merger.resolutionAt(k) == null) {
            return UNKNOWN;
        }
        merger.removeResolution(k);
        return merger.resolutionCount;
    }

    // ---- replays

    public int replay(int branch, int onto) {
        Plain from = tipOf(branch);
        Plain target = commitAt(onto);
        if (from == null || target == null) {
            return UNKNOWN;
        }
        if (isUnderWay()) {
            return STATE;
        }
        if (lacksRoomFor(from, target)) {
            return FULL;
        }
        current.remember(commitCount, merger);
        current.begin(branch, from, target);
        return stopOrFinish(carry(current));
    }

    public int go() {
        return isUnderWay() ? stopOrFinish(carry(current)) : STATE;
    }

    public int skip() {
        if (!isUnderWay()) {
            return STATE;
        }
        current.figures[LEFT_OUT]++;
        current.at--;
        return stopOrFinish(carry(current));
    }

    public int abort() {
        if (!isUnderWay()) {
            return STATE;
        }
        int before = commitCount;
        dropCommitsFrom(current.commitsBefore);
        current.restore(merger);
        current.stop = 0;
        return before - commitCount;
    }

    public int status(int what) {
        if (what < 0 || what > 8) {
            return OUTSIDE;
        }
        if (what >= 2 && what <= 5) {
            return current.figures[what - 2];
        }
        boolean idle = !isUnderWay();
        switch (what) {
            case 0:
                return current.stop;
            case 1:
                return idle ? NONE : current.commitAtWork().number;
            case 6:
                return idle ? 0 : current.at;
            case 7:
                return mergeAtStop(NONE) ? merger.open : 0;
            default:
                return idle ? NONE : current.top.number;
        }
    }

    public int conflict(int k, int what) {
        if (!pickConflict(k)) {
            return UNKNOWN;
        }
        if (what >= 70) {
            return isShapeIndex(what - 70) ? merger.shape.numberAt(what - 70) : OUTSIDE;
        }
        if (what >= 50) {
            return isLineIndex(what - 50) ? merger.pickedTheirs.lineAt(what - 50) : OUTSIDE;
        }
        if (what >= 30) {
            return isLineIndex(what - 30) ? merger.pickedOurs.lineAt(what - 30) : OUTSIDE;
        }
        switch (what) {
            case 0:
                return merger.pickedBase.size;
            case 1:
                return merger.pickedOurs.size;
            case 2:
                return merger.pickedTheirs.size;
            case 3:
                return merger.shape.size;
            case 4:
                return merger.shape == merger.theirsFirst ? 1 : 0;
            default:
                return isLineIndex(what - 10) ? merger.pickedBase.lineAt(what - 10) : OUTSIDE;
        }
    }

    public int settle(int k, int slot) {
        latestFault = NO_FAULT;
        Slot source = slotAt(slot);
        if (source == null || !pickConflict(k)) {
            return UNKNOWN;
        }
        int fault = source.faultAsBytes();
        if (fault != NO_FAULT) {
            return failBy(fault);
        }
        if (!source.holdsLines(MOST_RESOLVED_LINES)) {
            return OUTSIDE;
        }
        if (merger.resolutionCount >= MOST_RESOLUTIONS) {
            return FULL;
        }
        merger.addResolution(source.items);
        return merger.resolutionCount;
    }

    public int foretell(int branch, int onto, int what) {
        Plain from = tipOf(branch);
        Plain target = commitAt(onto);
        if (from == null || target == null) {
            return UNKNOWN;
        }
        if ((what < 0 || what > 5) && !isLineIndex(what - 10)) {
            return OUTSIDE;
        }
        if (isUnderWay()) {
            return STATE;
        }
        if (lacksRoomFor(from, target)) {
            return FULL;
        }
        rehearsal.begin(branch, from, target);
        int outcome = carry(rehearsal);
        switch (what) {
            case 0:
                return outcome;
            case 1:
                return rehearsal.figures[MADE];
            case 2:
                return rehearsal.figures[LEFT_OUT];
            case 3:
                return outcome == 0 ? NONE : rehearsal.commitAtWork().number;
            case 4:
                return outcome == 0 ? 0 : merger.open;
            case 5:
                return rehearsal.top.row.length;
            default:
                return elementOr(rehearsal.top.row, what - 10);
        }
    }

    // ---- slots

    public int blank(int slot, int sort, int n) {
        latestFault = NO_FAULT;
        Slot target = slotAt(slot);
        if (target == null) {
            return UNKNOWN;
        }
        if (sort < 0 || sort > 1 || n > MOST_ELEMENTS) {
            return OUTSIDE;
        }
        if (n < 0) {
            return failBy(SIZE_FAULT);
        }
        target.putArray(new int[n], sort == 0);
        return 1;
    }

    public int show(int slot, int c) {
        Slot target = slotAt(slot);
        Plain it = commitAt(c);
        if (target == null || it == null) {
            return UNKNOWN;
        }
        target.putArray(it.row.clone(), true);
        return it.row.length;
    }

    public int trail(int slot, int c) {
        Slot target = slotAt(slot);
        Plain it = commitAt(c);
        if (target == null || it == null) {
            return UNKNOWN;
        }
        int[] path = it.pathNumbers();
        target.putArray(path, false);
        return path.length;
    }

    public int hold(int slot, int c) {
        Slot target = slotAt(slot);
        Plain it = commitAt(c);
        if (target == null || it == null) {
            return UNKNOWN;
        }
        target.putCommit(it);
        return 1;
    }

    public int held(int slot) {
        latestFault = NO_FAULT;
        Slot source = slotAt(slot);
        if (source == null) {
            return UNKNOWN;
        }
        if (source.items != null) {
            return failBy(CAST_FAULT);
        }
        if (source.commit == null) {
            return failBy(NULL_FAULT);
        }
        return source.commit.gone ? NONE : source.commit.number;
    }

    public int as(int slot, int sort) {
        latestFault = NO_FAULT;
        Slot source = slotAt(slot);
        if (source == null) {
            return UNKNOWN;
        }
        if (sort < 0 || sort > 4) {
            return OUTSIDE;
        }
        if (source.isEmpty()) {
            return failBy(NULL_FAULT);
        }
        return source.isOfSort(sort) ? 1 : failBy(CAST_FAULT);
    }

    public int lose(int slot) {
        Slot it = slotAt(slot);
        if (it == null) {
            return UNKNOWN;
        }
        boolean heldSomething = !it.isEmpty();
        it.putCommit(null);
        return heldSomething ? 1 : 0;
    }

    public int write(int slot, int i, int v) {
        latestFault = NO_FAULT;
        Slot target = slotAt(slot);
        if (target == null) {
            return UNKNOWN;
        }
        int fault = target.faultAtElement(i);
        if (fault != NO_FAULT) {
            return failBy(fault);
        }
        target.items[i] = target.isNarrow ? (byte) v : v;
        return 1;
    }

    public long number(int slot, int i) {
        latestFault = NO_FAULT;
        Slot source = slotAt(slot);
        if (source == null) {
            return LOST;
        }
        latestFault = source.faultAtElement(i);
        return latestFault == NO_FAULT ? source.items[i] : LOST;
    }

    public int copy(int slot, int i, int other, int j, int n) {
        latestFault = NO_FAULT;
        Slot source = slotAt(slot);
        Slot target = slotAt(other);
        if (source == null || target == null) {
            return UNKNOWN;
        }
        if (source.isEmpty() || target.isEmpty()) {
            return failBy(NULL_FAULT);
        }
        if (source.items == null || target.items == null || source.isNarrow != target.isNarrow) {
            return failBy(CAST_FAULT);
        }
        if (!isRange(i, n, source.items.length) || !isRange(j, n, target.items.length)) {
            return failBy(INDEX_FAULT);
        }
        System.arraycopy(source.items, i, target.items, j, n);
        return n;
    }

    // ---- virtual methods and counts

    public int tell(int c) {
        Plain it = commitAt(c);
        return it == null ? UNKNOWN : it.speak();
    }

    public int trace() {
        return track.value;
    }

    public int fault() {
        return latestFault;
    }

    public int many(int what) {
        switch (what) {
            case 0:
                return commitCount;
            case 1:
                return merger.resolutionCount;
            case 2:
                return countReachedCommits();
            case 3:
                return countFilledSlots();
            default:
                return OUTSIDE;
        }
    }

    // ---- looking things up

    private Plain commitAt(int c) {
        return c >= 0 && c < commitCount ? commits[c] : null;
    }

    private Plain tipOf(int branch) {
        return branch >= 0 && branch < MOST_BRANCHES ? tips[branch] : null;
    }

    private Slot slotAt(int slot) {
        return slot >= 0 && slot < MOST_SLOTS ? slots[slot] : null;
    }

    private static int elementOr(int[] row, int i) {
        return i >= 0 && i < row.length ? row[i] : NONE;
    }

    private static boolean isLineIndex(int i) {
        return i >= 0 && i < MOST_LINES;
    }

    private static boolean isShapeIndex(int i) {
        return i >= 0 && i < MOST_SHAPE_NUMBERS;
    }

    /** Subtracts instead of adding, so that no sum can overflow. */
    private static boolean isRange(int from, int n, int length) {
        return from >= 0 && n >= 0 && from <= length && n <= length - from;
    }

    private int failBy(int fault) {
        latestFault = fault;
        return -10 - fault;
    }

    private int hashPart(int before, Part part) {
        int hash = 31 * before + part.size;
        for (int i = 0; i < part.size; i++) {
            int line = part.lineAt(i);
            hash = 31 * hash + (line >= 0 && line < LINE_VALUES ? scramble[line] : 0);
        }
        return hash;
    }

    private int countReachedCommits() {
        int count = 0;
        for (int c = 0; c < commitCount; c++) {
            Plain it = commitAt(c);
            count += it != null && isReached(it) ? 1 : 0;
        }
        return count;
    }

    private boolean isReached(Plain it) {
        for (int b = 0; b < MOST_BRANCHES; b++) {
            if (it.isOnPathOf(tips[b])) {
                return true;
            }
        }
        return false;
    }

    private int countFilledSlots() {
        int count = 0;
        for (int s = 0; s < MOST_SLOTS; s++) {
            count += slots[s].isEmpty() ? 0 : 1;
        }
        return count;
    }

    // ---- making and dropping commits

    private Plain makeFirstCommit() {
        Plain first = makeCommit(PLAIN, null, NO_LINES, null);
        for (int b = 0; b < MOST_BRANCHES; b++) {
            tips[b] = first;
        }
        return first;
    }

    /** The callers have seen that there is room for one commit more. */
    private Plain makeCommit(int kind, Plain parent, int[] row, Plain origin) {
        Plain made;
        if (kind == FIX) {
            made = new Fix(track, commitCount, parent, row, origin);
        } else if (kind == KEPT) {
            made = new Kept(track, commitCount, parent, row, origin);
        } else {
            made = new Plain(track, commitCount, parent, row, origin);
        }
        if (commitCount < MOST_COMMITS) {
            commits[commitCount] = made;
            commitCount++;
        }
        return made;
    }

    private void dropCommitsFrom(int first) {
        for (int c = first; c < commitCount; c++) {
            Plain it = commitAt(c);
            if (it != null) {
                it.gone = true;
                commits[c] = null;
            }
        }
        commitCount = first;
    }

    // ---- carrying commits along

    private boolean isUnderWay() {
        return current.stop != 0;
    }

    private boolean lacksRoomFor(Plain from, Plain onto) {
        return commitCount + from.countNotOnPathOf(onto) > MOST_COMMITS;
    }

    /**
     * Runs a replay until it is over (0) or stops (1 or 2). When it goes on with the commit at which
     * it stopped, that commit's change cannot be there already: no change on either path has become
     * another one since, so that looking once more comes to the merge, as go() has to.
     */
    private int carry(Replay r) {
        for (; r.at >= 0; r.at--) {
            Plain c = r.commitAtWork();
            if (isThereAlready(r, c)) {
                r.figures[LEFT_OUT]++;
            } else {
                int stop = place(r, c);
                if (stop != 0) {
                    return stop;
                }
            }
        }
        return 0;
    }

    private boolean isThereAlready(Replay r, Plain c) {
        if (c.kind() != PLAIN) {
            return false;
        }
        change.readChange(c);
        for (int k = 0; k < r.thereCount; k++) {
            otherChange.readChange(r.there[k]);
            if (change.hasSamePieces(otherChange)) {
                return true;
            }
        }
        return false;
    }

    private int place(Replay r, Plain c) {
        merger.mergeRows(c.parentRow(), r.top.row, c.row, NONE);
        if (merger.open > 0) {
            return 1;
        }
        if (merger.size > MOST_LINES) {
            return 2;
        }
        r.figures[RESOLVED] += merger.conflicts;
        if (c.kind() == PLAIN && merger.resultEquals(r.top.row)) {
            r.figures[LEFT_OUT]++;
        } else if (c.kind() == FIX && r.top != r.onto) {
            r.top.row = merger.copyResult();
            r.figures[MELTED]++;
        } else if (r.draft == null) {
            r.top = makeCommit(c.kind(), r.top, merger.copyResult(), c);
            r.figures[MADE]++;
        } else {
            r.draft.row = merger.copyResult();
            r.top = r.draft;
            r.figures[MADE]++;
        }
        return 0;
    }

    private int stopOrFinish(int outcome) {
        current.stop = outcome;
        if (outcome == 0) {
            tips[current.branch] = current.top;
        }
        return outcome;
    }

    private boolean mergeAtStop(int wanted) {
        if (!isUnderWay()) {
            return false;
        }
        Plain c = current.commitAtWork();
        merger.mergeRows(c.parentRow(), current.top.row, c.row, wanted);
        return true;
    }

    private boolean pickConflict(int k) {
        if (k < 0 || !mergeAtStop(k) || k >= merger.open) {
            return false;
        }
        merger.findShape(merger.pickedBase, merger.pickedOurs, merger.pickedTheirs);
        return true;
    }

    private static final class Trace {
        int value;

        void leave(int number) {
            value = 31 * value + number;
        }
    }

    private static class Plain {
        final Trace track;
        final int number;
        final Plain parent;
        final Plain origin;
        int[] row;
        boolean gone;

        Plain(Trace track, int number, Plain parent, int[] row, Plain origin) {
            this.track = track;
            this.number = number;
            this.parent = parent;
            this.origin = origin;
            this.row = row;
            track.leave(1);
            track.leave(2);
            if (origin == null) {
                track.leave(7);
            }
        }

        int kind() {
            return PLAIN;
        }

        int speak() {
            return speakPlainly();
        }

        /** Stands apart from speak() because a fix calls it past the body of kept. */
        final int speakPlainly() {
            track.leave(11);
            return row.length;
        }

        /** Commit 0 compares with itself, so that its change has no pieces. */
        final int[] parentRow() {
            return parent == null ? row : parent.row;
        }

        final boolean isOnPathOf(Plain tip) {
            for (Plain p = tip; p != null; p = p.parent) {
                if (p == this) {
                    return true;
                }
            }
            return false;
        }

        final int countNotOnPathOf(Plain other) {
            int count = 0;
            for (Plain p = this; p != null; p = p.parent) {
                count += p.isOnPathOf(other) ? 0 : 1;
            }
            return count;
        }

        final int pathLength() {
            int length = 0;
            for (Plain p = this; p != null; p = p.parent) {
                length++;
            }
            return length;
        }

        final int[] pathNumbers() {
            int[] numbers = new int[pathLength()];
            int i = numbers.length;
            for (Plain p = this; p != null && i > 0; p = p.parent) {
                i--;
                numbers[i] = p.number;
            }
            return numbers;
        }
    }

    private static class Kept extends Plain {
        Kept(Trace track, int number, Plain parent, int[] row, Plain origin) {
            super(track, number, parent, row, origin);
            track.leave(3);
            track.leave(4);
        }

        int kind() {
            return KEPT;
        }

        int speak() {
            track.leave(12);
            return speakPlainly() + 100;
        }
    }

    private static final class Fix extends Kept {
        Fix(Trace track, int number, Plain parent, int[] row, Plain origin) {
            super(track, number, parent, row, origin);
            track.leave(5);
            track.leave(6);
        }

        int kind() {
            return FIX;
        }

        int speak() {
            track.leave(13);
            return speakPlainly() + 200;
        }
    }

    /** Holds an array or a commit or nothing; the elements of a byte array are kept as ints. */
    private static final class Slot {
        int[] items;
        boolean isNarrow;
        Plain commit;

        boolean isEmpty() {
            return items == null && commit == null;
        }

        void putArray(int[] newItems, boolean narrow) {
            items = newItems;
            isNarrow = narrow;
            commit = null;
        }

        void putCommit(Plain c) {
            items = null;
            commit = c;
        }

        boolean isOfSort(int sort) {
            switch (sort) {
                case 0:
                    return items != null && isNarrow;
                case 1:
                    return items != null && !isNarrow;
                case 2:
                    return commit != null;
                case 3:
                    return commit instanceof Kept;
                default:
                    return commit instanceof Fix;
            }
        }

        int faultAsBytes() {
            if (isEmpty()) {
                return NULL_FAULT;
            }
            return isOfSort(0) ? NO_FAULT : CAST_FAULT;
        }

        int faultAtElement(int i) {
            if (isEmpty()) {
                return NULL_FAULT;
            }
            if (items == null) {
                return CAST_FAULT;
            }
            return i >= 0 && i < items.length ? NO_FAULT : INDEX_FAULT;
        }

        boolean holdsLines(int most) {
            if (items == null || items.length > most) {
                return false;
            }
            for (int i = 0; i < items.length; i++) {
                if (items[i] < 0 || items[i] >= LINE_VALUES) {
                    return false;
                }
            }
            return true;
        }
    }

    /** A stretch of a row; setTo() alone sets it, so that it always lies within the row. */
    private static final class Part {
        int[] row = NO_LINES;
        int from;
        int size;

        void setTo(int[] newRow, int newFrom, int to) {
            boolean fits = newFrom >= 0 && newFrom <= to && to <= newRow.length;
            row = newRow;
            from = fits ? newFrom : 0;
            size = fits ? to - newFrom : 0;
        }

        int lineAt(int i) {
            return i >= 0 && i < size ? row[from + i] : NONE;
        }

        boolean equalsPart(Part other) {
            if (size != other.size) {
                return false;
            }
            for (int i = 0; i < size; i++) {
                if (lineAt(i) != other.lineAt(i)) {
                    return false;
                }
            }
            return true;
        }
    }

    /** The matching of two rows, and the pieces between its pairs. */
    private static final class Matching {
        private static final int WIDTH = MOST_LINES + 1;

        /** At i * WIDTH + j: the most pairs of the first row from i on and the second from j on. */
        final int[] most = new int[WIDTH * WIDTH];
        /** For each index of the first row its partner in the second, or NONE. */
        final int[] partner = new int[MOST_LINES];
        final Part[] outs = new Part[MOST_GAPS];
        final Part[] ins = new Part[MOST_GAPS];
        int pieces;

        Matching() {
            for (int k = 0; k < MOST_GAPS; k++) {
                outs[k] = new Part();
                ins[k] = new Part();
            }
        }

        void match(int[] first, int[] second) {
            int n = Math.min(first.length, MOST_LINES);
            int m = Math.min(second.length, MOST_LINES);
            fillMost(first, n, second, m);
            int left = most[0];
            int from = 0;
            for (int i = 0; i < n; i++) {
                partner[i] = NONE;
                for (int j = from; j < m && left > 0; j++) {
                    if (first[i] == second[j] && most[(i + 1) * WIDTH + j + 1] == left - 1) {
                        partner[i] = j;
                        from = j + 1;
                        left--;
                        break;
                    }
                }
            }
        }

        private void fillMost(int[] first, int n, int[] second, int m) {
            for (int j = 0; j <= m; j++) {
                most[n * WIDTH + j] = 0;
            }
            for (int i = n - 1; i >= 0; i--) {
                int row = i * WIDTH;
                int below = row + WIDTH;
                most[row + m] = 0;
                for (int j = m - 1; j >= 0; j--) {
                    most[row + j] = first[i] == second[j]
                            ? most[below + j + 1] + 1
                            : Math.max(most[below + j], most[row + j + 1]);
                }
            }
        }

        void readChange(Plain c) {
            int[] before = c.parentRow();
            int[] after = c.row;
            match(before, after);
            pieces = 0;
            int outFrom = 0;
            int inFrom = 0;
            int n = Math.min(before.length, MOST_LINES);
            for (int i = 0; i <= n; i++) {
                int j = i < n ? partner[i] : after.length;
                if (j == NONE) {
                    continue;
                }
                if (i > outFrom || j > inFrom) {
                    outs[pieces].setTo(before, outFrom, i);
                    ins[pieces].setTo(after, inFrom, j);
                    pieces++;
                }
                outFrom = i + 1;
                inFrom = j + 1;
            }
        }

        boolean hasSamePieces(Matching other) {
            if (pieces != other.pieces) {
                return false;
            }
            for (int k = 0; k < pieces; k++) {
                if (!outs[k].equalsPart(other.outs[k]) || !ins[k].equalsPart(other.ins[k])) {
                    return false;
                }
            }
            return true;
        }
    }

    /** The sequence of a conflict for one choice of the first side, and the lines by their names. */
    private static final class Shape {
        final int[] numbers = new int[MOST_SHAPE_NUMBERS];
        int size;
        final int[] lines = new int[3 * MOST_LINES];
        int names;

        void clear() {
            size = 0;
            names = 0;
        }

        void addPart(Part part) {
            if (size + 1 + part.size > numbers.length || names + part.size > lines.length) {
                return;
            }
            numbers[size] = part.size;
            size++;
            for (int i = 0; i < part.size; i++) {
                int line = part.row[part.from + i];
                int name = 0;
                while (name < names && lines[name] != line) {
                    name++;
                }
                if (name == names) {
                    lines[names] = line;
                    names++;
                }
                numbers[size] = name;
                size++;
            }
        }

        int nameOf(int line) {
            for (int name = 0; name < names; name++) {
                if (lines[name] == line) {
                    return name;
                }
            }
            return NONE;
        }

        int numberAt(int i) {
            return i >= 0 && i < size ? numbers[i] : NONE;
        }

        /** Both sequences of one conflict have the same length. */
        boolean isBelow(Shape other) {
            for (int i = 0; i < size; i++) {
                if (numbers[i] != other.numbers[i]) {
                    return numbers[i] < other.numbers[i];
                }
            }
            return false;
        }

        boolean equalsNumbers(int[] others) {
            if (size != others.length) {
                return false;
            }
            for (int i = 0; i < size; i++) {
                if (numbers[i] != others[i]) {
                    return false;
                }
            }
            return true;
        }
    }

    private static final class Resolution {
        final int[] shape;
        final int[] row;

        Resolution(int[] shape, int[] row) {
            this.shape = shape;
            this.row = row;
        }
    }

    /** Merges three rows with the recorded resolutions, which it keeps. */
    private static final class Merger {
        final Resolution[] resolutions = new Resolution[MOST_RESOLUTIONS];
        int resolutionCount;

        final int[] result = new int[MOST_MERGED_LINES];
        int size;
        int conflicts;
        int open;

        private final Matching toOurs = new Matching();
        private final Matching toTheirs = new Matching();
        private final Part base = new Part();
        private final Part ours = new Part();
        private final Part theirs = new Part();

        final Part pickedBase = new Part();
        final Part pickedOurs = new Part();
        final Part pickedTheirs = new Part();

        private final Shape oursFirst = new Shape();
        final Shape theirsFirst = new Shape();
        Shape shape = oursFirst;

        /** Keeps the parts of the open conflict with the index wanted as the picked ones. */
        void mergeRows(int[] baseRow, int[] oursRow, int[] theirsRow, int wanted) {
            toOurs.match(baseRow, oursRow);
            toTheirs.match(baseRow, theirsRow);
            size = 0;
            conflicts = 0;
            open = 0;
            int from = 0;
            int oursFrom = 0;
            int theirsFrom = 0;
            int n = Math.min(baseRow.length, MOST_LINES);
            for (int i = 0; i <= n; i++) {
                int j = i < n ? toOurs.partner[i] : oursRow.length;
                int k = i < n ? toTheirs.partner[i] : theirsRow.length;
                if (j == NONE || k == NONE) {
                    continue;
                }
                base.setTo(baseRow, from, i);
                ours.setTo(oursRow, oursFrom, j);
                theirs.setTo(theirsRow, theirsFrom, k);
                if (!takeCleanGap()) {
                    meetConflict(wanted);
                }
                if (i < n) {
                    addLine(baseRow[i]);
                }
                from = i + 1;
                oursFrom = j + 1;
                theirsFrom = k + 1;
            }
        }

        private boolean takeCleanGap() {
            if (ours.equalsPart(base)) {
                addLines(theirs);
                return true;
            }
            if (theirs.equalsPart(base) || theirs.equalsPart(ours)) {
                addLines(ours);
                return true;
            }
            return false;
        }

        private void meetConflict(int wanted) {
            conflicts++;
            findShape(base, ours, theirs);
            Resolution known = findResolution();
            if (known != null) {
                addResolved(known);
                return;
            }
            if (open == wanted) {
                pickedBase.setTo(base.row, base.from, base.from + base.size);
                pickedOurs.setTo(ours.row, ours.from, ours.from + ours.size);
                pickedTheirs.setTo(theirs.row, theirs.from, theirs.from + theirs.size);
            }
            open++;
        }

        void findShape(Part ofBase, Part ofOurs, Part ofTheirs) {
            oursFirst.clear();
            oursFirst.addPart(ofBase);
            oursFirst.addPart(ofOurs);
            oursFirst.addPart(ofTheirs);
            theirsFirst.clear();
            theirsFirst.addPart(ofBase);
            theirsFirst.addPart(ofTheirs);
            theirsFirst.addPart(ofOurs);
            shape = theirsFirst.isBelow(oursFirst) ? theirsFirst : oursFirst;
        }

        private Resolution findResolution() {
            for (int k = 0; k < resolutionCount; k++) {
                Resolution it = resolutionAt(k);
                if (it != null && shape.equalsNumbers(it.shape)) {
                    return it;
                }
            }
            return null;
        }

        private void addLine(int line) {
            if (size < result.length) {
                result[size] = line;
                size++;
            }
        }

        private void addLines(Part part) {
            for (int i = 0; i < part.size; i++) {
                addLine(part.lineAt(i));
            }
        }

        private void addResolved(Resolution known) {
            for (int i = 0; i < known.row.length; i++) {
                int number = known.row[i];
                boolean isName = number >= 0 && number < shape.names;
                addLine(isName ? shape.lines[number] : number - LINE_VALUES);
            }
        }

        int resultLine(int i) {
            return i >= 0 && i < size ? result[i] : NONE;
        }

        boolean resultEquals(int[] row) {
            if (size != row.length) {
                return false;
            }
            for (int i = 0; i < size; i++) {
                if (result[i] != row[i]) {
                    return false;
                }
            }
            return true;
        }

        int[] copyResult() {
            return Arrays.copyOf(result, size);
        }

        Resolution resolutionAt(int k) {
            return k >= 0 && k < resolutionCount ? resolutions[k] : null;
        }

        /** Records a row for the shape that was found last. */
        void addResolution(int[] lines) {
            if (resolutionCount >= MOST_RESOLUTIONS) {
                return;
            }
            int[] row = new int[lines.length];
            for (int i = 0; i < row.length; i++) {
                int name = shape.nameOf(lines[i]);
                row[i] = name == NONE ? LINE_VALUES + lines[i] : name;
            }
            int[] numbers = Arrays.copyOf(shape.numbers, shape.size);
            resolutions[resolutionCount] = new Resolution(numbers, row);
            resolutionCount++;
        }

        void removeResolution(int k) {
            for (int i = k; i + 1 < resolutionCount; i++) {
                resolutions[i] = resolutions[i + 1];
            }
            resolutionCount--;
        }
    }

    /** A replay, and what has to come back when it is aborted. */
    private static final class Replay {
        /** Stands for the commits that a foretold replay would make; null in a real one. */
        final Plain draft;

        int branch;
        Plain onto;
        Plain top;
        /** The newest first, so that at, which goes down to 0, tells how many come after it. */
        final Plain[] work = new Plain[MOST_COMMITS];
        int at = -1;
        final Plain[] there = new Plain[MOST_COMMITS];
        int thereCount;
        /** 0 if it is not under way. */
        int stop;
        final int[] figures = new int[FIGURES];

        int commitsBefore;
        final int[] figuresBefore = new int[FIGURES];
        final Resolution[] resolutionsBefore = new Resolution[MOST_RESOLUTIONS];
        int resolutionCountBefore;

        Replay(Plain first, Plain draft) {
            this.draft = draft;
            this.onto = first;
            this.top = first;
        }

        void begin(int newBranch, Plain from, Plain newOnto) {
            branch = newBranch;
            onto = newOnto;
            top = newOnto;
            at = listNotOnPath(from, newOnto, work) - 1;
            thereCount = listNotOnPath(newOnto, from, there);
            Arrays.fill(figures, 0);
        }

        private static int listNotOnPath(Plain from, Plain other, Plain[] list) {
            int count = 0;
            for (Plain p = from; p != null && count < list.length; p = p.parent) {
                if (!p.isOnPathOf(other)) {
                    list[count] = p;
                    count++;
                }
            }
            return count;
        }

        Plain commitAtWork() {
            return at >= 0 && at < work.length ? work[at] : onto;
        }

        void remember(int commitCount, Merger merger) {
            commitsBefore = commitCount;
            resolutionCountBefore = merger.resolutionCount;
            for (int k = 0; k < MOST_RESOLUTIONS; k++) {
                resolutionsBefore[k] = merger.resolutions[k];
            }
            System.arraycopy(figures, 0, figuresBefore, 0, FIGURES);
        }

        void restore(Merger merger) {
            merger.resolutionCount = resolutionCountBefore;
            for (int k = 0; k < MOST_RESOLUTIONS; k++) {
                merger.resolutions[k] = resolutionsBefore[k];
            }
            System.arraycopy(figuresBefore, 0, figures, 0, FIGURES);
        }
    }
}
