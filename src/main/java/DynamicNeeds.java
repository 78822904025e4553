/**
 * Actions whose needs come up while they run: what is read is kept with the result and looked at
 * first the next time; files that others make are waited for, a second try following; what is
 * missing is a need, too; trees of files that are mapped one by one.
 */
public final class DynamicNeeds {
    public static final int NONE = -1;

    private static final int MOST_FILES = 24;
    private static final int MOST_ACTIONS = 12;
    private static final int MOST_ROWS = 12;
    private static final int MOST_MAPPINGS = 6;
    private static final int MOST_TRIES = 9;
    private static final int MOST_SKIPPED = 8;

    private static final int READ = 0;
    private static final int PROBE = 1;
    private static final int SKIP = 2;

    private static final int DONE = 1;
    private static final int WAITS = 0;
    private static final int REFUSED = -1;
    private static final int STOPPED = -2;
    private static final int MISSING = -3;
    private static final int IN_A_RING = -5;
    private static final int NO_SUCH = -9;

    private static final long FIRST_SUM = 7L;
    private static final long SUM_FACTOR = 31L;
    private static final long THERE_TERM = 1L;
    private static final long NOT_THERE_TERM = 2L;

    private static final long TREE_DIVISOR = 5L;
    private static final long MEMBER_STEP = 1000003L;
    private static final long RESULT_FACTOR = 17L;

    /** Far above need: an action waits at most 9 times in one resolve, and is fresh once it is over. */
    private static final int MOST_RUNS_OF_A_RESOLVE = 10000;

    private final int triesEach;
    private final FileState[] files = new FileState[MOST_FILES];
    private final Action[] actions = new Action[MOST_ACTIONS];
    private final Mapping[] mappings = new Mapping[MOST_MAPPINGS];
    private int fileCount = 0;
    private int actionCount = 0;
    private int mappingCount = 0;

    /** The actions being resolved, outermost first; one place more, so that there is always room. */
    private final int[] way = new int[MOST_ACTIONS + 1];
    /** The latest ring is left on the way, from here on. */
    private int ringStart = 0;
    private int ringLength = 0;

    public DynamicNeeds(int tries) {
        triesEach = Math.max(1, Math.min(MOST_TRIES, tries));
        for (int i = 0; i < MOST_FILES; i++) {
            files[i] = new FileState();
        }
        for (int i = 0; i < MOST_ACTIONS; i++) {
            actions[i] = new Action();
        }
        for (int i = 0; i < MOST_MAPPINGS; i++) {
            mappings[i] = new Mapping();
        }
    }

    public int file(long digest) {
        if (fileCount >= MOST_FILES) {
            return NONE;
        }
        files[fileCount].put(digest);
        fileCount++;
        return fileCount - 1;
    }

    public boolean change(int file, boolean there, long digest) {
        if (!isFile(file) || files[file].isMade()) {
            return false;
        }
        if (there) {
            files[file].put(digest);
        } else {
            files[file].remove();
        }
        return true;
    }

    public int action(int allowed) {
        if (actionCount >= MOST_ACTIONS) {
            return NONE;
        }
        actions[actionCount].allowed = allowed;
        actionCount++;
        return actionCount - 1;
    }

    public boolean makes(int action, int file) {
        if (!isAction(action) || !isFile(file)) {
            return false;
        }
        if (actions[action].made != NONE || files[file].isMade()) {
            return false;
        }
        actions[action].made = file;
        actions[action].forget();
        files[file].maker = action;
        files[file].remove();
        return true;
    }

    public boolean row(int action, int kind, int which) {
        if (!isAction(action) || !isRow(kind, which)) {
            return false;
        }
        return actions[action].addRow(kind, which);
    }

    public int run(int action) {
        return isAction(action) ? runOnce(action) : NO_SUCH;
    }

    public int resolve(int action) {
        if (!isAction(action)) {
            return NO_SUCH;
        }
        ringLength = 0;
        way[0] = action;
        int depth = 1;
        for (int runs = 0; runs < MOST_RUNS_OF_A_RESOLVE && depth < way.length; runs++) {
            int current = way[depth - 1];
            int outcome = runOnce(current);
            int maker = awaitedMaker(actions[current]);
            if (isAction(maker)) {
                if (tellRing(maker, depth)) {
                    return IN_A_RING;
                }
                way[depth] = maker;
                depth++;
            } else if (depth == 1 || outcome == REFUSED || outcome == STOPPED) {
                return outcome;
            } else {
                depth--;
            }
        }
        return STOPPED;
    }

    public int ring(int i) {
        return i >= 0 && i < ringLength ? way[ringStart + i] : NONE;
    }

    public int waits(int action) {
        return isAction(action) ? actions[action].waitsFor : NONE;
    }

    public boolean fresh(int action) {
        return isAction(action) && hasBit(freshActions(), action);
    }

    public int kept(int action, int i, int what) {
        if (!isAction(action) || !actions[action].hasKept) {
            return NONE;
        }
        return actions[action].notes.tell(i, what);
    }

    public int unused(int action) {
        if (!isAction(action)) {
            return 0;
        }
        int allowed = actions[action].allowed & ((1 << fileCount) - 1);
        return allowed & ~actions[action].notes.fileBits();
    }

    public long digest(int file) {
        return isFile(file) ? files[file].digest : 0L;
    }

    public int counted(int action, int what) {
        if (!isAction(action)) {
            return NONE;
        }
        switch (what) {
            case 0:
                return actions[action].reused;
            case 1:
                return actions[action].triesInAll;
            case 2:
                return actions[action].triesSince;
            default:
                return NONE;
        }
    }

    public int members(int file) {
        return isFile(file) ? treeSize(files[file]) : 0;
    }

    public int mapping(int file, long salt) {
        if (!isFile(file) || mappingCount >= MOST_MAPPINGS) {
            return NONE;
        }
        mappings[mappingCount].file = file;
        mappings[mappingCount].salt = salt;
        mappingCount++;
        return mappingCount - 1;
    }

    public int map(int mapping) {
        if (!isMapping(mapping)) {
            return NONE;
        }
        FileState mapped = files[mappings[mapping].file];
        if (!mapped.isMade() || !mapped.there || !isFresh(mapped, freshActions())) {
            return NONE;
        }
        return mappings[mapping].take(mapped.digest, treeSize(mapped));
    }

    public long result(int mapping, int i) {
        return isMapping(mapping) ? mappings[mapping].resultOf(i) : 0L;
    }

    private boolean isFile(int number) {
        return number >= 0 && number < fileCount;
    }

    private boolean isAction(int number) {
        return number >= 0 && number < actionCount;
    }

    private boolean isMapping(int number) {
        return number >= 0 && number < mappingCount;
    }

    private boolean isRow(int kind, int which) {
        if (kind == SKIP) {
            return which >= 1 && which <= MOST_SKIPPED;
        }
        return (kind == READ || kind == PROBE) && isFile(which);
    }

    private int runOnce(int number) {
        Action action = actions[number];
        int fresh = freshActions();
        action.waitsFor = NONE;
        if (hasBit(fresh, number)) {
            action.reused++;
            return action.outcome;
        }
        if (action.triesSince >= triesEach) {
            action.forget();
            action.triesSince = 0;
            return STOPPED;
        }
        return tryOnce(action, fresh);
    }

    private int tryOnce(Action action, int fresh) {
        action.triesInAll++;
        action.triesSince++;
        // Whatever the outcome is, the notes of before are replaced or go.
        action.forget();
        int outcome = goThroughRows(action, fresh);
        if (outcome != WAITS) {
            action.triesSince = 0;
        }
        if (outcome == DONE || outcome == MISSING) {
            keep(action, outcome);
        } else {
            action.forget();
        }
        return outcome;
    }

    private void keep(Action action, int outcome) {
        action.hasKept = true;
        action.outcome = outcome;
        if (!isFile(action.made)) {
            return;
        }
        if (outcome == DONE) {
            files[action.made].put(action.sum);
        } else {
            files[action.made].remove();
        }
    }

    private int goThroughRows(Action action, int fresh) {
        action.sum = FIRST_SUM;
        long lastRead = 0L;
        for (int i = 0; i < action.rowCount; i++) {
            int kind = action.kinds[i];
            int which = action.targets[i];
            if (kind == SKIP) {
                i += (lastRead & 1L) != 0L ? which : 0;
                continue;
            }
            int outcome = lookAt(action, kind == READ, which, fresh);
            if (outcome != DONE) {
                return outcome;
            }
            if (kind == READ) {
                lastRead = files[which].digest;
            }
        }
        return DONE;
    }

    /** One READ or PROBE: DONE if the try goes on behind it, else how the try ends. */
    private int lookAt(Action action, boolean reads, int number, int fresh) {
        FileState file = files[number];
        if (!hasBit(action.allowed, number)) {
            return REFUSED;
        }
        if (!isFresh(file, fresh)) {
            action.waitsFor = number;
            return WAITS;
        }
        action.notes.add(number, file, reads);
        if (reads && !file.there) {
            return MISSING;
        }
        if (reads) {
            action.addToSum(file.digest);
        } else {
            action.addToSum(file.there ? THERE_TERM : NOT_THERE_TERM);
        }
        return DONE;
    }

    /** The least set, as bits: it grows from none, so actions that only hold each other stay out. */
    private int freshActions() {
        int fresh = 0;
        for (int round = 0; round < actionCount; round++) {
            int before = fresh;
            for (int i = 0; i < actionCount; i++) {
                if (holds(actions[i], fresh)) {
                    fresh |= 1 << i;
                }
            }
            if (fresh == before) {
                return fresh;
            }
        }
        return fresh;
    }

    private boolean holds(Action action, int fresh) {
        if (!action.hasKept) {
            return false;
        }
        Notes notes = action.notes;
        for (int i = 0; i < notes.count; i++) {
            FileState file = files[notes.numbers[i]];
            if (!notes.isLike(i, file) || !isFresh(file, fresh)) {
                return false;
            }
        }
        return true;
    }

    /** A file that nobody makes never has to be waited for. */
    private static boolean isFresh(FileState file, int fresh) {
        return !file.isMade() || hasBit(fresh, file.maker);
    }

    private static boolean hasBit(int bits, int number) {
        return ((bits >>> number) & 1) != 0;
    }

    /** NONE if the latest run doesn't wait; only a file that is made is waited for. */
    private int awaitedMaker(Action action) {
        return isFile(action.waitsFor) ? files[action.waitsFor].maker : NONE;
    }

    /** Whether the maker is on the way already, so that the way from it on is a ring. */
    private boolean tellRing(int maker, int depth) {
        for (int i = 0; i < depth; i++) {
            if (way[i] == maker) {
                ringStart = i;
                ringLength = depth - i;
                return true;
            }
        }
        return false;
    }

    private static int treeSize(FileState file) {
        if (!file.isMade() || !file.there) {
            return 0;
        }
        return (int) Math.floorMod(file.digest, TREE_DIVISOR);
    }

    private static long memberDigest(long treeDigest, int i) {
        return treeDigest ^ (i * MEMBER_STEP);
    }

    private static final class FileState {
        boolean there = false;
        /** 0 as long as the file isn't there. */
        long digest = 0L;
        int maker = NONE;

        void put(long newDigest) {
            there = true;
            digest = newDigest;
        }

        void remove() {
            there = false;
            digest = 0L;
        }

        boolean isMade() {
            return maker != NONE;
        }
    }

    private static final class Action {
        final int[] kinds = new int[MOST_ROWS];
        final int[] targets = new int[MOST_ROWS];
        int rowCount = 0;
        int allowed = 0;
        int made = NONE;
        /** Of the try that is under way, or else of what is kept; empty if nothing is. */
        final Notes notes = new Notes();
        boolean hasKept = false;
        int outcome = 0;
        long sum = 0L;
        int waitsFor = NONE;
        int reused = 0;
        int triesInAll = 0;
        int triesSince = 0;

        boolean addRow(int kind, int target) {
            if (rowCount >= MOST_ROWS) {
                return false;
            }
            kinds[rowCount] = kind;
            targets[rowCount] = target;
            rowCount++;
            forget();
            return true;
        }

        void addToSum(long term) {
            sum = SUM_FACTOR * sum + term;
        }

        void forget() {
            hasKept = false;
            notes.count = 0;
        }
    }

    /** A row notes one file at most, so there are never more notes than rows. */
    private static final class Notes {
        final int[] numbers = new int[MOST_ROWS];
        final boolean[] there = new boolean[MOST_ROWS];
        final boolean[] wasRead = new boolean[MOST_ROWS];
        final long[] digests = new long[MOST_ROWS];
        int count = 0;

        void add(int number, FileState file, boolean reads) {
            int place = placeOf(number);
            if (place >= MOST_ROWS) {
                return;
            }
            if (place == count) {
                numbers[place] = number;
                wasRead[place] = false;
                count++;
            }
            there[place] = file.there;
            digests[place] = file.digest;
            wasRead[place] = wasRead[place] || reads;
        }

        /** Where a file is noted, or the next free place. */
        int placeOf(int number) {
            for (int i = 0; i < count; i++) {
                if (numbers[i] == number) {
                    return i;
                }
            }
            return count;
        }

        boolean isLike(int i, FileState file) {
            return there[i] == file.there && (!wasRead[i] || digests[i] == file.digest);
        }

        int fileBits() {
            int bits = 0;
            for (int i = 0; i < count; i++) {
                bits |= 1 << numbers[i];
            }
            return bits;
        }

        int tell(int i, int what) {
            if (i < 0 || i >= count) {
                return NONE;
            }
            switch (what) {
                case 0:
                    return numbers[i];
                case 1:
                    return there[i] ? 1 : 0;
                case 2:
                    return wasRead[i] ? 1 : 0;
                default:
                    return NONE;
            }
        }
    }

    /** The members and their results follow from the tree's digest: that and their count are held. */
    private static final class Mapping {
        int file = 0;
        long salt = 0L;
        long treeDigest = 0L;
        int size = 0;

        int take(long newDigest, int newSize) {
            int anew = 0;
            for (int i = 0; i < newSize; i++) {
                if (!hasMember(memberDigest(newDigest, i))) {
                    anew++;
                }
            }
            treeDigest = newDigest;
            size = newSize;
            return anew;
        }

        boolean hasMember(long digest) {
            for (int i = 0; i < size; i++) {
                if (memberDigest(treeDigest, i) == digest) {
                    return true;
                }
            }
            return false;
        }

        long resultOf(int i) {
            return i >= 0 && i < size ? RESULT_FACTOR * memberDigest(treeDigest, i) + salt : 0L;
        }
    }
}
