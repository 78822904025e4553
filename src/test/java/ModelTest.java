import java.math.BigInteger;
import java.util.ArrayList;
import java.util.HashSet;
import java.util.LinkedHashMap;
import java.util.List;
import java.util.Map;
import java.util.Random;
import java.util.Set;

/**
 * Long runs of calls, wrong inputs among them, against a second writing of the document that shares
 * nothing with the class: it works by recursion, with the library's collections.
 */
public final class ModelTest {
    private static final int RUNS = 4000;
    private static final int CALLS = 512;
    private static final BigInteger MISSED = BigInteger.ONE.shiftLeft(64).negate();

    private static final class Note {
        boolean there;
        /** Null if the file was probed alone; below all 64-bit numbers if it was missing. */
        BigInteger digest;

        void read(Long now) {
            digest = now == null ? MISSED : BigInteger.valueOf(now);
        }
    }

    private static final class Made {
        int allowed;
        Integer makes;
        Integer waits;
        List<int[]> rows = new ArrayList<>();
        Map<Integer, Note> kept;
        int outcome;
        int reused;
        int all;
        int since;
    }

    private static final class Mapped {
        int file;
        long salt;
        Map<Long, Long> results = new LinkedHashMap<>();
    }

    /** Ends a resolve at once, as the document's "all ends". */
    private static final class Ended extends Exception {
        private static final long serialVersionUID = 1L;
        final int answer;

        Ended(int answer) {
            this.answer = answer;
        }
    }

    private static final class Model {
        final int tries;
        final List<Long> digests = new ArrayList<>();
        final List<Made> actions = new ArrayList<>();
        final List<Mapped> mappings = new ArrayList<>();
        List<Integer> ring = List.of();

        Model(int tries) {
            this.tries = tries < 1 ? 1 : tries > 9 ? 9 : tries;
        }

        static boolean in(int i, List<?> list) {
            return 0 <= i && i < list.size();
        }

        Integer makerOf(int file) {
            for (int a = 0; a < actions.size(); a++) {
                if (actions.get(a).makes != null && actions.get(a).makes == file) {
                    return a;
                }
            }
            return null;
        }

        int file(long digest) {
            if (digests.size() == 24) {
                return -1;
            }
            digests.add(digest);
            return digests.size() - 1;
        }

        boolean change(int file, boolean there, long digest) {
            if (!in(file, digests) || makerOf(file) != null) {
                return false;
            }
            digests.set(file, there ? Long.valueOf(digest) : null);
            return true;
        }

        int action(int allowed) {
            if (actions.size() == 12) {
                return -1;
            }
            Made made = new Made();
            made.allowed = allowed;
            actions.add(made);
            return actions.size() - 1;
        }

        boolean makes(int action, int file) {
            if (!in(action, actions) || !in(file, digests) || actions.get(action).makes != null
                    || makerOf(file) != null) {
                return false;
            }
            actions.get(action).makes = file;
            actions.get(action).kept = null;
            digests.set(file, null);
            return true;
        }

        boolean row(int action, int kind, int which) {
            boolean fine = kind == 2 ? which >= 1 && which <= 8 : (kind == 0 || kind == 1) && in(which, digests);
            if (!fine || !in(action, actions) || actions.get(action).rows.size() == 12) {
                return false;
            }
            actions.get(action).rows.add(new int[] {kind, which});
            actions.get(action).kept = null;
            return true;
        }

        boolean isFresh(int action, Set<Integer> open) {
            Made made = actions.get(action);
            if (made.kept == null || !open.add(action)) {
                return false;
            }
            boolean fresh = true;
            for (Map.Entry<Integer, Note> entry : made.kept.entrySet()) {
                Long now = digests.get(entry.getKey());
                Note then = entry.getValue();
                Integer maker = makerOf(entry.getKey());
                fresh &= then.there == (now != null);
                fresh &= then.digest == null
                        || then.digest.equals(now == null ? MISSED : BigInteger.valueOf(now));
                fresh &= maker == null || isFresh(maker, open);
            }
            open.remove(action);
            return fresh;
        }

        boolean fresh(int action) {
            return in(action, actions) && isFresh(action, new HashSet<>());
        }

        int run(int action) {
            if (!in(action, actions)) {
                return -9;
            }
            Made made = actions.get(action);
            made.waits = null;
            if (fresh(action)) {
                made.reused++;
                return made.outcome;
            }
            if (made.since == tries) {
                made.kept = null;
                made.since = 0;
                return -2;
            }
            made.all++;
            Map<Integer, Note> notes = new LinkedHashMap<>();
            BigInteger[] sum = {BigInteger.valueOf(7)};
            int outcome = goThrough(made, notes, sum);
            made.since = outcome == 0 ? made.since + 1 : 0;
            made.kept = outcome == 1 || outcome == -3 ? notes : null;
            made.outcome = outcome;
            if (made.kept != null && made.makes != null) {
                digests.set(made.makes, outcome == 1 ? Long.valueOf(sum[0].longValue()) : null);
            }
            return outcome;
        }

        int goThrough(Made made, Map<Integer, Note> notes, BigInteger[] sum) {
            long last = 0;
            int leftOut = 0;
            for (int[] row : made.rows) {
                if (leftOut > 0) {
                    leftOut--;
                    continue;
                }
                if (row[0] == 2) {
                    leftOut = last % 2 != 0 ? row[1] : 0;
                    continue;
                }
                int file = row[1];
                if (!BigInteger.valueOf(made.allowed).testBit(file)) {
                    return -1;
                }
                Integer maker = makerOf(file);
                if (maker != null && !fresh(maker)) {
                    made.waits = file;
                    return 0;
                }
                Long digest = digests.get(file);
                Note note = notes.computeIfAbsent(file, f -> new Note());
                note.there = digest != null;
                BigInteger term = BigInteger.valueOf(digest != null ? 1 : 2);
                if (row[0] == 0) {
                    note.read(digest);
                    if (digest == null) {
                        return -3;
                    }
                    last = digest;
                    term = BigInteger.valueOf(digest);
                }
                sum[0] = sum[0].multiply(BigInteger.valueOf(31)).add(term);
            }
            return 1;
        }

        int resolve(int action) {
            if (!in(action, actions)) {
                return -9;
            }
            ring = List.of();
            try {
                return resolve(action, new ArrayList<>());
            } catch (Ended end) {
                return end.answer;
            }
        }

        int resolve(int action, List<Integer> open) throws Ended {
            List<Integer> all = new ArrayList<>(open);
            all.add(action);
            int answer = run(action);
            while (answer == 0) {
                int maker = makerOf(actions.get(action).waits);
                if (all.contains(maker)) {
                    ring = all.subList(all.indexOf(maker), all.size());
                    throw new Ended(-5);
                }
                int other = resolve(maker, all);
                if (other == -1 || other == -2) {
                    throw new Ended(other);
                }
                answer = run(action);
            }
            return answer;
        }

        int ring(int i) {
            return in(i, ring) ? ring.get(i) : -1;
        }

        int waits(int action) {
            return in(action, actions) && actions.get(action).waits != null ? actions.get(action).waits : -1;
        }

        int kept(int action, int i, int what) {
            if (!in(action, actions) || actions.get(action).kept == null || what < 0 || what > 2) {
                return -1;
            }
            List<Integer> order = new ArrayList<>(actions.get(action).kept.keySet());
            if (!in(i, order)) {
                return -1;
            }
            Note note = actions.get(action).kept.get(order.get(i));
            return what == 0 ? order.get(i) : (what == 1 ? note.there : note.digest != null) ? 1 : 0;
        }

        int unused(int action) {
            int bits = 0;
            for (int f = 0; f < digests.size() && in(action, actions); f++) {
                Made made = actions.get(action);
                boolean used = made.kept != null && made.kept.containsKey(f);
                bits += (made.allowed & (1 << f)) != 0 && !used ? 1 << f : 0;
            }
            return bits;
        }

        long digest(int file) {
            return in(file, digests) && digests.get(file) != null ? digests.get(file) : 0L;
        }

        int counted(int action, int what) {
            if (!in(action, actions) || what < 0 || what > 2) {
                return -1;
            }
            Made made = actions.get(action);
            return what == 0 ? made.reused : what == 1 ? made.all : made.since;
        }

        int members(int file) {
            if (!in(file, digests) || makerOf(file) == null || digests.get(file) == null) {
                return 0;
            }
            return BigInteger.valueOf(digests.get(file)).mod(BigInteger.valueOf(5)).intValue();
        }

        int mapping(int file, long salt) {
            if (!in(file, digests) || mappings.size() == 6) {
                return -1;
            }
            Mapped mapped = new Mapped();
            mapped.file = file;
            mapped.salt = salt;
            mappings.add(mapped);
            return mappings.size() - 1;
        }

        int map(int mapping) {
            if (!in(mapping, mappings)) {
                return -1;
            }
            Mapped mapped = mappings.get(mapping);
            Integer maker = makerOf(mapped.file);
            if (maker == null || !fresh(maker) || digests.get(mapped.file) == null) {
                return -1;
            }
            Map<Long, Long> results = new LinkedHashMap<>();
            int anew = 0;
            for (int i = 0; i < members(mapped.file); i++) {
                long member = digests.get(mapped.file) ^ (i * 1000003L);
                anew += mapped.results.containsKey(member) ? 0 : 1;
                results.put(member, 17 * member + mapped.salt);
            }
            mapped.results = results;
            return anew;
        }

        long result(int mapping, int i) {
            if (!in(mapping, mappings)) {
                return 0L;
            }
            List<Long> results = new ArrayList<>(mappings.get(mapping).results.values());
            return in(i, results) ? results.get(i) : 0L;
        }
    }

    private static final class Caller {
        final Random random;
        final DynamicNeeds x;
        final Model m;
        final int files;
        final int actions;
        final int strictness;

        Caller(long seed) {
            random = new Random(seed);
            int tries = random.nextInt(13) - 1;
            x = new DynamicNeeds(tries);
            m = new Model(tries);
            files = 2 + random.nextInt(random.nextBoolean() ? 6 : 24);
            actions = 1 + random.nextInt(random.nextBoolean() ? 4 : 13);
            strictness = random.nextInt(4);
        }

        int number(int below) {
            switch (random.nextInt(60)) {
                case 0:
                    return -1;
                case 1:
                    return below;
                case 2:
                    return random.nextInt();
                case 3:
                    return random.nextBoolean() ? Integer.MIN_VALUE : Integer.MAX_VALUE;
                default:
                    return random.nextInt(below);
            }
        }

        long anyDigest() {
            switch (random.nextInt(8)) {
                case 0:
                    return random.nextLong();
                case 1:
                    return random.nextBoolean() ? Long.MIN_VALUE : Long.MAX_VALUE;
                default:
                    return random.nextInt(5) - 2L;
            }
        }

        int anyAllowed() {
            int allowed = -1;
            for (int i = 0; i < strictness; i++) {
                allowed &= ~(1 << random.nextInt(32));
            }
            return random.nextInt(20) == 0 ? random.nextInt() : allowed;
        }

        void build() {
            int kind = random.nextInt(12);
            int file = number(files);
            int action = number(actions);
            if (kind < 2) {
                long digest = anyDigest();
                Check.due("file(" + digest + ")", x.file(digest), m.file(digest));
            } else if (kind < 4) {
                int allowed = anyAllowed();
                Check.due("action(" + allowed + ")", x.action(allowed), m.action(allowed));
            } else if (kind < 6) {
                Check.due("makes(" + action + ", " + file + ")", x.makes(action, file), m.makes(action, file));
            } else if (kind < 11) {
                int what = random.nextInt(25) == 0 ? number(4) : random.nextInt(5) / 2;
                int which = what == 2 ? random.nextInt(11) : file;
                Check.due("row(" + action + ", " + what + ", " + which + ")", x.row(action, what, which),
                        m.row(action, what, which));
            } else {
                long salt = anyDigest();
                Check.due("mapping(" + file + ", " + salt + ")", x.mapping(file, salt), m.mapping(file, salt));
            }
        }

        void work() {
            int kind = random.nextInt(10);
            int action = number(actions);
            if (kind < 3) {
                Check.due("run(" + action + ")", x.run(action), m.run(action));
            } else if (kind < 5) {
                Check.due("resolve(" + action + ")", x.resolve(action), m.resolve(action));
            } else if (kind < 8) {
                int file = number(files);
                boolean there = random.nextInt(4) != 0;
                long digest = anyDigest();
                Check.due("change(" + file + ", " + there + ", " + digest + ")", x.change(file, there, digest),
                        m.change(file, there, digest));
            } else {
                int mapping = number(6);
                Check.due("map(" + mapping + ")", x.map(mapping), m.map(mapping));
            }
        }

        void ask() {
            int file = number(files);
            int action = number(actions);
            int i = number(6);
            int what = number(3);
            switch (random.nextInt(9)) {
                case 0:
                    Check.due("ring(" + i + ")", x.ring(i), m.ring(i));
                    break;
                case 1:
                    Check.due("waits(" + action + ")", x.waits(action), m.waits(action));
                    break;
                case 2:
                    Check.due("fresh(" + action + ")", x.fresh(action), m.fresh(action));
                    break;
                case 3:
                    Check.due("kept(" + action + ", " + i + ", " + what + ")", x.kept(action, i, what),
                            m.kept(action, i, what));
                    break;
                case 4:
                    Check.due("unused(" + action + ")", x.unused(action), m.unused(action));
                    break;
                case 5:
                    Check.due("digest(" + file + ")", x.digest(file), m.digest(file));
                    break;
                case 6:
                    Check.due("counted(" + action + ", " + what + ")", x.counted(action, what),
                            m.counted(action, what));
                    break;
                case 7:
                    Check.due("members(" + file + ")", x.members(file), m.members(file));
                    break;
                default:
                    int mapping = number(6);
                    int member = number(5);
                    Check.due("result(" + mapping + ", " + member + ")", x.result(mapping, member),
                            m.result(mapping, member));
            }
        }

        void call(int made) {
            int share = made < CALLS / 6 ? 80 : 4;
            int roll = random.nextInt(100);
            if (roll < share) {
                build();
            } else if (roll < share + (100 - share) / 2) {
                work();
            } else {
                ask();
            }
        }
    }

    public static void main(String[] args) {
        for (int seed = 0; seed < RUNS; seed++) {
            Check.part("seed " + seed);
            Caller caller = new Caller(seed);
            for (int made = 0; made < CALLS; made++) {
                caller.call(made);
            }
        }
        Check.end();
    }
}
