/** What the tests of single calls share: small objects, wrong numbers, and a look at a whole object. */
abstract class Scene {
    static final int NONE = DynamicNeeds.NONE;
    static final int READ = 0;
    static final int PROBE = 1;
    static final int SKIP = 2;
    static final int ALL = -1;
    /** READ of one file of digest d makes a file of digest d + 217. */
    static final long SUM_OFFSET = 31L * 7L;

    /** A new object with one file of each digest. */
    static DynamicNeeds withFiles(int tries, long... digests) {
        DynamicNeeds x = new DynamicNeeds(tries);
        for (int i = 0; i < digests.length; i++) {
            Check.due("file", x.file(digests[i]), i);
        }
        return x;
    }

    /** A new action that makes a file (or none) and has one row (or none, kind NONE). */
    static int maker(DynamicNeeds x, int makes, int kind, int which) {
        int action = x.action(ALL);
        if (makes != NONE) {
            Check.due("makes", x.makes(action, makes), true);
        }
        if (kind != NONE) {
            Check.due("row", x.row(action, kind, which), true);
        }
        return action;
    }

    /** A new action that makes nothing, with rows of a kind and a number each. */
    static int reader(DynamicNeeds x, int allowed, int... rows) {
        int action = x.action(allowed);
        rows(x, action, rows);
        return action;
    }

    static void rows(DynamicNeeds x, int action, int... rows) {
        for (int i = 0; i + 1 < rows.length; i += 2) {
            Check.due("row", x.row(action, rows[i], rows[i + 1]), true);
        }
    }

    /** The file 1 of digest wanted, made by the action 0 out of the file 0; the file 2 isn't made. */
    static DynamicNeeds withTree(long wanted) {
        DynamicNeeds x = withFiles(2, wanted - SUM_OFFSET, 0L, 9L);
        maker(x, 1, READ, 0);
        Check.due("run", x.run(0), 1);
        Check.due("digest", x.digest(1), wanted);
        return x;
    }

    static void reshape(DynamicNeeds x, long wanted) {
        Check.due("change", x.change(0, true, wanted - SUM_OFFSET), true);
        Check.due("run", x.run(0), 1);
        Check.due("digest", x.digest(1), wanted);
    }

    /** Numbers that none of so many has; also such that a shift or a narrower type would take for 0. */
    static int[] wrongNumbers(int count) {
        return new int[] {-1, -2, -32, -256, Integer.MIN_VALUE, count, count + 1, 32, 64, 256, 65536,
            Integer.MAX_VALUE};
    }

    /** The files that an action kept, in their order, each with what 1 and what 2. */
    static void keeps(DynamicNeeds x, int action, int... dues) {
        for (int i = 0; i < dues.length; i++) {
            Check.due("kept(" + action + ", " + i / 3 + ", " + i % 3 + ")", x.kept(action, i / 3, i % 3), dues[i]);
        }
        Check.due("kept(" + action + ", " + dues.length / 3 + ", 0)", x.kept(action, dues.length / 3, 0), NONE);
    }

    /** All that can be asked of a small object: some 25 calls for each action, 6 for each mapping. */
    static String look(DynamicNeeds x, int files, int actions, int mappings) {
        StringBuilder text = new StringBuilder();
        for (int i = -1; i <= actions; i++) {
            text.append(" ring ").append(x.ring(i));
        }
        for (int file = 0; file <= files; file++) {
            text.append(" file ").append(x.digest(file)).append(' ').append(x.members(file));
        }
        for (int action = 0; action <= actions; action++) {
            lookAtAction(x, action, text);
        }
        for (int mapping = 0; mapping <= mappings; mapping++) {
            text.append(" mapping");
            for (int i = -1; i <= 4; i++) {
                text.append(' ').append(x.result(mapping, i));
            }
        }
        return text.toString();
    }

    private static void lookAtAction(DynamicNeeds x, int action, StringBuilder text) {
        text.append(" action ").append(x.waits(action)).append(' ').append(x.fresh(action));
        text.append(' ').append(x.unused(action));
        for (int what = -1; what <= 3; what++) {
            text.append(' ').append(x.counted(action, what));
        }
        for (int i = 0; i < 5; i++) {
            for (int what = 0; what <= 2; what++) {
                text.append(' ').append(x.kept(action, i, what));
            }
        }
    }
}
