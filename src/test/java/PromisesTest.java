/** At least one run of calls for each promise: ordinary inputs, the document's edges, wrong inputs. */
public final class PromisesTest extends Scene {
    private static final int[] NO_NUMBERS = {-1, 24, 25, Integer.MIN_VALUE, Integer.MAX_VALUE};

    public static void main(String[] args) {
        promise1Tries();
        promise1Empty();
        promise2();
        promise3();
        promise4();
        promise5();
        promise6();
        promise6Forgets();
        promise7Outcomes();
        promise7Sums();
        promise7Skips();
        promise7Stops();
        promise7OrderOfTests();
        promise8Chain();
        promise8Ends();
        promise8SecondTry();
        promise9();
        promise9AllActions();
        promise10();
        promise11();
        promise11MissingIsANeed();
        promise11MadeLater();
        promise12();
        promise13();
        promise14();
        promise15();
        promise16();
        promise17();
        promise18();
        promise18MovedMembers();
        promise19();
        Check.end();
    }

    private static void promise1Tries() {
        Check.part("promise 1, tries");
        int[][] asked = {{Integer.MIN_VALUE, 1}, {-1, 1}, {0, 1}, {1, 1}, {2, 2}, {5, 5}, {8, 8}, {9, 9},
            {10, 9}, {Integer.MAX_VALUE, 9}};
        for (int[] pair : asked) {
            DynamicNeeds x = withFiles(pair[0], 1L);
            int action = maker(x, 0, READ, 0);
            for (int i = 1; i <= pair[1]; i++) {
                Check.due("run " + i + " of " + pair[0], x.run(action), 0);
                Check.due("counted", x.counted(action, 2), i);
            }
            Check.due("last run of " + pair[0], x.run(action), -2);
            Check.due("counted", x.counted(action, 2), 0);
        }
    }

    private static void promise1Empty() {
        Check.part("promise 1, empty");
        DynamicNeeds x = new DynamicNeeds(3);
        Check.due("change", x.change(0, true, 1L), false);
        Check.due("makes", x.makes(0, 0), false);
        Check.due("row", x.row(0, SKIP, 1), false);
        Check.due("run", x.run(0), -9);
        Check.due("resolve", x.resolve(0), -9);
        Check.due("ring", x.ring(0), NONE);
        Check.due("waits", x.waits(0), NONE);
        Check.due("fresh", x.fresh(0), false);
        Check.due("kept", x.kept(0, 0, 0), NONE);
        Check.due("unused", x.unused(0), 0);
        Check.due("digest", x.digest(0), 0L);
        Check.due("counted", x.counted(0, 0), NONE);
        Check.due("members", x.members(0), 0);
        Check.due("mapping", x.mapping(0, 1L), NONE);
        Check.due("map", x.map(0), NONE);
        Check.due("result", x.result(0, 0), 0L);
        Check.due("file", x.file(1L), 0);
        Check.due("action", x.action(0), 0);
    }

    private static void promise2() {
        Check.part("promise 2");
        DynamicNeeds x = new DynamicNeeds(1);
        for (int i = 0; i < 24; i++) {
            Check.due("file", x.file(100L + i), i);
        }
        Check.due("file 25", x.file(5L), NONE);
        Check.due("file 26", x.file(6L), NONE);
        Check.due("digest(0)", x.digest(0), 100L);
        Check.due("digest(23)", x.digest(23), 123L);
        Check.due("digest(24)", x.digest(24), 0L);
        int action = maker(x, NONE, PROBE, 23);
        Check.due("run", x.run(action), 1);
        Check.due("there", x.kept(action, 0, 1), 1);
        Check.due("extremes", withFiles(1, Long.MIN_VALUE).digest(0), Long.MIN_VALUE);
        Check.due("extremes", withFiles(1, Long.MAX_VALUE).digest(0), Long.MAX_VALUE);
    }

    private static void promise3() {
        Check.part("promise 3");
        DynamicNeeds x = withFiles(2, 5L, 6L);
        int action = maker(x, NONE, PROBE, 0);
        Check.due("change", x.change(0, true, 9L), true);
        Check.due("digest", x.digest(0), 9L);
        Check.due("away", x.change(0, false, 8L), true);
        Check.due("digest", x.digest(0), 0L);
        Check.due("run", x.run(action), 1);
        Check.due("there", x.kept(action, 0, 1), 0);
        Check.due("back", x.change(0, true, 0L), true);
        Check.due("run", x.run(action), 1);
        Check.due("there", x.kept(action, 0, 1), 1);
        Check.due("again away", x.change(0, false, 0L), true);
        Check.due("away twice", x.change(0, false, 0L), true);
        for (int number : NO_NUMBERS) {
            Check.due("change(" + number + ")", x.change(number, true, 1L), false);
        }
        Check.due("change(2)", x.change(2, true, 1L), false);
        Check.due("makes", x.makes(action, 1), true);
        Check.due("change of a made one", x.change(1, true, 4L), false);
        Check.due("digest", x.digest(1), 0L);
        Check.due("run", x.run(action), 1);
        Check.due("digest", x.digest(1), SUM_OFFSET + 2L);
        Check.due("change of a made one", x.change(1, false, 4L), false);
        Check.due("digest", x.digest(1), SUM_OFFSET + 2L);
    }

    private static void promise4() {
        Check.part("promise 4");
        DynamicNeeds x = new DynamicNeeds(1);
        Check.due("action", x.action(1 << 1), 0);
        Check.due("file", x.file(3L), 0);
        Check.due("file", x.file(4L), 1);
        Check.due("row", x.row(0, READ, 1), true);
        Check.due("a file that came later", x.run(0), 1);
        Check.due("row", x.row(0, PROBE, 0), true);
        Check.due("not allowed", x.run(0), -1);
        for (int i = 1; i < 12; i++) {
            Check.due("action", x.action(i), i);
        }
        Check.due("action 13", x.action(1), NONE);
        Check.due("action 14", x.action(1), NONE);
        Check.due("run(11)", x.run(11), 1);
        Check.due("run(12)", x.run(12), -9);
        DynamicNeeds y = new DynamicNeeds(1);
        for (int i = 0; i < 24; i++) {
            y.file(i);
        }
        Check.due("action", y.action(1 << 23), 0);
        Check.due("row", y.row(0, READ, 23), true);
        Check.due("bit 23", y.run(0), 1);
    }

    private static void promise5() {
        Check.part("promise 5");
        DynamicNeeds x = withFiles(2, 1L, 2L, 3L);
        int a = maker(x, NONE, READ, 0);
        int b = maker(x, NONE, NONE, 0);
        Check.due("run", x.run(a), 1);
        Check.due("fresh", x.fresh(a), true);
        Check.due("makes", x.makes(a, 1), true);
        Check.due("fresh", x.fresh(a), false);
        Check.due("kept", x.kept(a, 0, 0), NONE);
        Check.due("digest", x.digest(1), 0L);
        Check.due("makes one already", x.makes(a, 2), false);
        Check.due("is made already", x.makes(b, 1), false);
        Check.due("the same again", x.makes(a, 1), false);
        Check.due("digest", x.digest(2), 3L);
        for (int number : NO_NUMBERS) {
            Check.due("makes(" + number + ", 2)", x.makes(number, 2), false);
            Check.due("makes(b, " + number + ")", x.makes(b, number), false);
        }
        Check.due("makes(2, 2)", x.makes(2, 2), false);
        Check.due("makes(b, 3)", x.makes(b, 3), false);
        Check.due("run", x.run(a), 1);
        Check.due("digest", x.digest(1), SUM_OFFSET + 1L);
        Check.due("fresh", x.fresh(a), true);
        Check.due("a false makes forgets nothing", x.makes(a, 2), false);
        Check.due("fresh", x.fresh(a), true);
        Check.due("b can still make one", x.makes(b, 2), true);
        Check.due("digest", x.digest(2), 0L);
        Check.due("run", x.run(b), 1);
        Check.due("digest", x.digest(2), 7L);
    }

    private static void promise6() {
        Check.part("promise 6");
        DynamicNeeds x = withFiles(1, 1L, 2L);
        int a = maker(x, NONE, NONE, 0);
        Check.due("SKIP 0", x.row(a, SKIP, 0), false);
        Check.due("SKIP 9", x.row(a, SKIP, 9), false);
        Check.due("SKIP -1", x.row(a, SKIP, -1), false);
        Check.due("SKIP least", x.row(a, SKIP, Integer.MIN_VALUE), false);
        Check.due("SKIP greatest", x.row(a, SKIP, Integer.MAX_VALUE), false);
        int[] kinds = {-1, 3, 4, Integer.MIN_VALUE, Integer.MAX_VALUE};
        for (int kind : kinds) {
            Check.due("kind " + kind, x.row(a, kind, 1), false);
        }
        for (int number : NO_NUMBERS) {
            Check.due("action " + number, x.row(number, READ, 0), false);
            Check.due("READ " + number, x.row(a, READ, number), false);
            Check.due("PROBE " + number, x.row(a, PROBE, number), false);
        }
        Check.due("action 1", x.row(1, READ, 0), false);
        Check.due("READ 2", x.row(a, READ, 2), false);
        Check.due("PROBE 2", x.row(a, PROBE, 2), false);
        Check.due("run without rows", x.run(a), 1);
        Check.due("kept", x.kept(a, 0, 0), NONE);
        for (int i = 0; i < 12; i++) {
            int kind = i % 3;
            int which = kind == SKIP ? 1 + i * 7 / 11 : kind;
            Check.due("row " + i, x.row(a, kind, which), true);
        }
        Check.due("row 13", x.row(a, READ, 0), false);
        Check.due("row 13", x.row(a, PROBE, 0), false);
        Check.due("row 13", x.row(a, SKIP, 1), false);
    }

    private static void promise6Forgets() {
        Check.part("promise 6, forgets");
        for (int kind = READ; kind <= SKIP; kind++) {
            DynamicNeeds x = withFiles(2, 1L, 2L, 3L);
            int a = maker(x, 2, READ, 0);
            Check.due("run", x.run(a), 1);
            Check.due("a false row", x.row(a, SKIP, 9), false);
            Check.due("fresh", x.fresh(a), true);
            Check.due("row", x.row(a, kind, 1), true);
            Check.due("fresh", x.fresh(a), false);
            Check.due("kept", x.kept(a, 0, 0), NONE);
            Check.due("the made one stays", x.digest(2), SUM_OFFSET + 1L);
            Check.due("run", x.run(a), 1);
            Check.due("no reuse", x.counted(a, 0), 0);
        }
        DynamicNeeds y = withFiles(2, 1L);
        int full = maker(y, NONE, READ, 0);
        for (int i = 1; i < 12; i++) {
            Check.due("row", y.row(full, PROBE, 0), true);
        }
        Check.due("run", y.run(full), 1);
        Check.due("row 13", y.row(full, READ, 0), false);
        Check.due("fresh", y.fresh(full), true);
    }

    private static void promise7Outcomes() {
        Check.part("promise 7, outcomes");
        DynamicNeeds x = withFiles(3, 1L, 2L, 3L, 4L);
        int done = maker(x, 2, READ, 0);
        int waiting = maker(x, 3, READ, 2);
        int refused = x.action(0);
        Check.due("row", x.row(refused, PROBE, 0), true);
        int missing = maker(x, NONE, READ, 1);
        Check.due("away", x.change(1, false, 0L), true);
        Check.due("WAITS", x.run(waiting), 0);
        Check.due("DONE", x.run(done), 1);
        Check.due("REUSED", x.run(done), 1);
        Check.due("reused", x.counted(done, 0), 1);
        Check.due("REFUSED", x.run(refused), -1);
        Check.due("REFUSED again", x.run(refused), -1);
        Check.due("no reuse of it", x.counted(refused, 0), 0);
        Check.due("MISSING", x.run(missing), -3);
        Check.due("MISSING, reused", x.run(missing), -3);
        Check.due("reused", x.counted(missing, 0), 1);
        Check.due("a second try", x.run(waiting), 1);
        Check.due("digest", x.digest(3), SUM_OFFSET + SUM_OFFSET + 1L);
        for (int number : NO_NUMBERS) {
            Check.due("run(" + number + ")", x.run(number), -9);
        }
        Check.due("run(4)", x.run(4), -9);
        Check.due("away", x.change(0, false, 0L), true);
        Check.due("MISSING", x.run(done), -3);
        Check.due("what it makes isn't there", x.digest(2), 0L);
        Check.due("MISSING, too", x.run(waiting), -3);
        Check.due("back", x.change(0, true, 6L), true);
        Check.due("DONE", x.run(done), 1);
        Check.due("digest", x.digest(2), SUM_OFFSET + 6L);
    }

    private static void promise7Sums() {
        Check.part("promise 7, sums");
        DynamicNeeds x = withFiles(1, Long.MAX_VALUE, 40L, 0L, 9L);
        int a = maker(x, 2, READ, 0);
        x.row(a, PROBE, 1);
        x.row(a, PROBE, 3);
        x.row(a, READ, 1);
        x.row(a, READ, 1);
        Check.due("away", x.change(3, false, 0L), true);
        Check.due("run", x.run(a), 1);
        long sum = 31L * 7L + Long.MAX_VALUE;
        sum = 31L * sum + 1L;
        sum = 31L * sum + 2L;
        sum = 31L * sum + 40L;
        sum = 31L * sum + 40L;
        Check.due("digest", x.digest(2), sum);
        Check.due("the same sum each try", x.change(0, true, 0L), true);
        Check.due("run", x.run(a), 1);
        Check.due("back", x.change(0, true, Long.MAX_VALUE), true);
        Check.due("run", x.run(a), 1);
        Check.due("digest", x.digest(2), sum);
    }

    /** Probes of the files 0 .. 7 behind a READ and a SKIP of n: how many are left out. */
    private static void skipCase(long digest, int n, int probes, int leftOut) {
        DynamicNeeds x = new DynamicNeeds(1);
        for (int i = 0; i < 12; i++) {
            x.file(digest);
        }
        int a = maker(x, NONE, READ, 11);
        x.row(a, SKIP, n);
        for (int i = 0; i < probes; i++) {
            x.row(a, PROBE, i);
        }
        Check.due("run", x.run(a), 1);
        Check.due("first", x.kept(a, 0, 0), 11);
        for (int i = 0; i < probes - leftOut; i++) {
            Check.due("kept behind SKIP " + n + " of " + digest, x.kept(a, 1 + i, 0), leftOut + i);
        }
        Check.due("no more behind SKIP " + n, x.kept(a, 1 + probes - leftOut, 0), NONE);
    }

    private static void promise7Skips() {
        Check.part("promise 7, SKIP");
        for (int n = 1; n <= 8; n++) {
            skipCase(5L, n, 10, n);
            skipCase(-5L, n, 10, n);
            skipCase(Long.MIN_VALUE, n, 10, 0);
            skipCase(4L, n, 10, 0);
            skipCase(1L, n, 3, Math.min(n, 3));
            skipCase(1L, n, 0, 0);
        }
        DynamicNeeds x = withFiles(1, 1L, 2L, 3L, 4L);
        int first = maker(x, NONE, SKIP, 1);
        x.row(first, PROBE, 0);
        x.row(first, SKIP, 1);
        x.row(first, PROBE, 1);
        Check.due("nothing was READ", x.run(first), 1);
        Check.due("kept", x.kept(first, 0, 0), 0);
        Check.due("a PROBE is no READ", x.kept(first, 1, 0), 1);
        int last = maker(x, NONE, READ, 0);
        x.row(last, READ, 1);
        x.row(last, SKIP, 8);
        x.row(last, READ, 2);
        x.row(last, SKIP, 1);
        x.row(last, SKIP, 1);
        x.row(last, PROBE, 3);
        Check.due("the last READ counts", x.run(last), 1);
        Check.due("kept", x.kept(last, 2, 0), 2);
        Check.due("a SKIP is left out like others", x.kept(last, 3, 0), 3);
        int refused = x.action(1);
        x.row(refused, READ, 0);
        x.row(refused, SKIP, 2);
        x.row(refused, READ, 1);
        x.row(refused, READ, 2);
        Check.due("what is left out isn't refused", x.run(refused), 1);
    }

    private static void promise7Stops() {
        Check.part("promise 7, STOPPED");
        DynamicNeeds x = withFiles(2, 1L, 2L, 3L);
        int base = maker(x, 1, READ, 0);
        int a = maker(x, 2, READ, 1);
        Check.due("run", x.run(base), 1);
        Check.due("run", x.run(a), 1);
        long sum = x.digest(2);
        Check.due("change", x.change(0, true, 8L), true);
        Check.due("WAITS", x.run(a), 0);
        Check.due("what was kept goes", x.kept(a, 0, 0), NONE);
        Check.due("what was made stays", x.digest(2), sum);
        Check.due("change back", x.change(0, true, 1L), true);
        Check.due("fresh base", x.fresh(base), true);
        Check.due("not fresh without what was kept", x.fresh(a), false);
        Check.due("change", x.change(0, true, 8L), true);
        Check.due("WAITS", x.run(a), 0);
        Check.due("STOPPED", x.run(a), -2);
        Check.due("what was made stays", x.digest(2), sum);
        Check.due("anew", x.run(a), 0);
        Check.due("run", x.run(base), 1);
        Check.due("DONE", x.run(a), 1);
        Check.due("tries are over", x.counted(a, 2), 0);
        Check.due("change", x.change(0, true, 9L), true);
        Check.due("two tries again", x.run(a), 0);
        Check.due("two tries again", x.run(a), 0);
        Check.due("STOPPED", x.run(a), -2);
    }

    private static void promise7OrderOfTests() {
        Check.part("promise 7, order of tests");
        DynamicNeeds x = withFiles(3, 1L, 2L);
        maker(x, 0, NONE, 0);
        int refused = x.action(2);
        x.row(refused, READ, 0);
        Check.due("REFUSED before WAITS", x.run(refused), -1);
        Check.due("it waits for none", x.waits(refused), NONE);
        int waiting = x.action(1);
        x.row(waiting, PROBE, 0);
        x.row(waiting, READ, 1);
        Check.due("a PROBE WAITS, too", x.run(waiting), 0);
        Check.due("then REFUSED", x.run(0), 1);
        Check.due("REFUSED", x.run(waiting), -1);
        Check.due("tries begin anew", x.counted(waiting, 2), 0);
    }

    private static void promise8Chain() {
        Check.part("promise 8, chain");
        DynamicNeeds x = withFiles(2, 3L, 0L, 0L, 0L, 0L, 0L, 0L, 0L, 0L, 0L, 0L, 0L, 0L);
        for (int i = 0; i < 12; i++) {
            maker(x, i + 1, READ, i);
        }
        Check.due("resolve of all 12", x.resolve(11), 1);
        Check.due("digest", x.digest(12), 12L * SUM_OFFSET + 3L);
        Check.due("tries of the first", x.counted(0, 1), 1);
        Check.due("tries of others", x.counted(11, 1), 2);
        Check.due("no ring", x.ring(0), NONE);
        Check.due("again", x.resolve(11), 1);
        Check.due("reused", x.counted(11, 0), 1);
        Check.due("others aren't run", x.counted(10, 0), 0);
        Check.due("away", x.change(0, false, 0L), true);
        Check.due("MISSING goes through", x.resolve(11), -3);
        Check.due("digest", x.digest(12), 0L);
        Check.due("MISSING, reused", x.resolve(11), -3);
        for (int number : NO_NUMBERS) {
            Check.due("resolve(" + number + ")", x.resolve(number), -9);
        }
        Check.due("resolve(12)", x.resolve(12), -9);
    }

    private static void promise8Ends() {
        Check.part("promise 8, ends");
        DynamicNeeds x = withFiles(2, 1L, 2L, 3L, 4L);
        int refused = x.action(0);
        x.makes(refused, 1);
        x.row(refused, READ, 0);
        int a = maker(x, 2, PROBE, 1);
        int b = maker(x, 3, READ, 2);
        Check.due("REFUSED on the way", x.resolve(b), -1);
        Check.due("b still waits", x.waits(b), 2);
        Check.due("a still waits", x.waits(a), 1);
        Check.due("tries of a", x.counted(a, 1), 1);
        Check.due("tries of b", x.counted(b, 1), 1);
        Check.due("REFUSED itself", x.resolve(refused), -1);
        Check.due("run", x.run(a), 0);
        Check.due("STOPPED on the way", x.resolve(b), -2);
        Check.due("tries of b", x.counted(b, 2), 2);
        Check.due("STOPPED itself", x.resolve(b), -2);
        Check.due("tries of b", x.counted(b, 2), 0);
        DynamicNeeds y = withFiles(2, 1L, 2L, 3L);
        int missing = maker(y, 1, READ, 0);
        int probes = maker(y, 2, PROBE, 1);
        y.change(0, false, 0L);
        Check.due("MISSING on the way doesn't end it", y.resolve(probes), 1);
        Check.due("digest", y.digest(2), SUM_OFFSET + 2L);
        Check.due("tries of the missing one", y.counted(missing, 1), 1);
    }

    private static void promise8SecondTry() {
        Check.part("promise 8, second try");
        DynamicNeeds one = withFiles(1, 1L, 2L);
        maker(one, 0, NONE, 0);
        int a = maker(one, 1, READ, 0);
        Check.due("one try isn't enough", one.resolve(a), -2);
        Check.due("the other was DONE", one.digest(0), 7L);
        Check.due("next time it is", one.resolve(a), 1);
        DynamicNeeds x = withFiles(3, 0L, 0L, 0L, 0L);
        for (int i = 0; i < 3; i++) {
            maker(x, i, NONE, 0);
        }
        int b = maker(x, 3, READ, 0);
        x.row(b, PROBE, 1);
        x.row(b, READ, 2);
        Check.due("three waits, no try left", x.resolve(b), -2);
        Check.due("tries", x.counted(b, 1), 3);
        Check.due("then one try", x.resolve(b), 1);
        Check.due("tries", x.counted(b, 1), 4);
    }

    private static void promise9() {
        Check.part("promise 9");
        DynamicNeeds x = withFiles(9, 0L, 0L, 0L, 0L, 5L);
        int a = maker(x, 0, READ, 1);
        int b = maker(x, 1, PROBE, 2);
        int c = maker(x, 2, READ, 3);
        int d = maker(x, 3, READ, 1);
        Check.due("resolve", x.resolve(a), -5);
        Check.due("ring(0)", x.ring(0), b);
        Check.due("ring(1)", x.ring(1), c);
        Check.due("ring(2)", x.ring(2), d);
        Check.due("ring(3)", x.ring(3), NONE);
        for (int number : NO_NUMBERS) {
            Check.due("ring(" + number + ")", x.ring(number), NONE);
        }
        Check.due("resolve none such", x.resolve(4), -9);
        Check.due("the ring stays", x.ring(0), b);
        Check.due("run", x.run(a), 0);
        Check.due("the ring stays", x.ring(2), d);
        Check.due("resolve", x.resolve(d), -5);
        Check.due("ring(0)", x.ring(0), d);
        Check.due("ring(1)", x.ring(1), b);
        Check.due("ring(2)", x.ring(2), c);
        int free = maker(x, NONE, READ, 4);
        Check.due("resolve", x.resolve(free), 1);
        Check.due("no ring", x.ring(0), NONE);
        DynamicNeeds y = withFiles(2, 0L);
        int own = maker(y, 0, PROBE, 0);
        Check.due("its own file", y.resolve(own), -5);
        Check.due("ring(0)", y.ring(0), own);
        Check.due("ring(1)", y.ring(1), NONE);
        Check.due("run", y.run(own), 0);
        Check.due("STOPPED", y.resolve(own), -2);
        Check.due("no ring", y.ring(0), NONE);
    }

    private static void promise9AllActions() {
        Check.part("promise 9, all actions");
        DynamicNeeds x = new DynamicNeeds(9);
        for (int i = 0; i < 12; i++) {
            x.file(0L);
        }
        for (int i = 0; i < 12; i++) {
            maker(x, i, READ, (i + 11) % 12);
        }
        Check.due("resolve", x.resolve(5), -5);
        for (int i = 0; i < 12; i++) {
            Check.due("ring(" + i + ")", x.ring(i), (5 - i + 12) % 12);
        }
        Check.due("ring(12)", x.ring(12), NONE);
        Check.due("ring(13)", x.ring(13), NONE);
    }

    private static void promise10() {
        Check.part("promise 10");
        DynamicNeeds x = withFiles(1, 0L, 0L, 0L, 4L);
        maker(x, 1, NONE, 0);
        maker(x, 2, NONE, 0);
        int a = maker(x, NONE, PROBE, 1);
        x.row(a, PROBE, 2);
        Check.due("before", x.waits(a), NONE);
        Check.due("run", x.run(a), 0);
        Check.due("waits", x.waits(a), 1);
        Check.due("row", x.row(a, PROBE, 0), true);
        Check.due("still", x.waits(a), 1);
        Check.due("STOPPED", x.run(a), -2);
        Check.due("not any more", x.waits(a), NONE);
        Check.due("run", x.run(0), 1);
        Check.due("run", x.run(a), 0);
        Check.due("the other", x.waits(a), 2);
        Check.due("run", x.run(1), 1);
        Check.due("the other, until it is run", x.waits(a), 2);
        Check.due("STOPPED", x.run(a), -2);
        Check.due("DONE", x.run(a), 1);
        Check.due("not any more", x.waits(a), NONE);
        Check.due("REUSED", x.run(a), 1);
        Check.due("not any more", x.waits(a), NONE);
        int missing = maker(x, NONE, READ, 3);
        x.change(3, false, 0L);
        Check.due("MISSING", x.run(missing), -3);
        Check.due("MISSING waits for none", x.waits(missing), NONE);
        for (int number : NO_NUMBERS) {
            Check.due("waits(" + number + ")", x.waits(number), NONE);
        }
        Check.due("waits(4)", x.waits(4), NONE);
    }

    private static void promise11() {
        Check.part("promise 11");
        DynamicNeeds x = withFiles(3, 4L, 6L, 0L, 0L);
        int a = maker(x, 2, READ, 0);
        x.row(a, PROBE, 1);
        int b = maker(x, 3, PROBE, 2);
        Check.due("before", x.fresh(a), false);
        Check.due("resolve", x.resolve(b), 1);
        Check.due("a", x.fresh(a), true);
        Check.due("b", x.fresh(b), true);
        Check.due("change", x.change(1, true, 7L), true);
        Check.due("a PROBE looks at no digest", x.fresh(a), true);
        Check.due("away", x.change(1, false, 7L), true);
        Check.due("a PROBE looks whether it is there", x.fresh(a), false);
        Check.due("b with a", x.fresh(b), false);
        Check.due("back", x.change(1, true, 8L), true);
        Check.due("fresh again", x.fresh(a), true);
        Check.due("b with a", x.fresh(b), true);
        Check.due("change", x.change(0, true, 5L), true);
        Check.due("a READ looks at the digest", x.fresh(a), false);
        Check.due("b probed, but its need isn't fresh", x.fresh(b), false);
        Check.due("run", x.run(a), 1);
        Check.due("b probed, so another digest is fine", x.fresh(b), true);
        Check.due("away", x.change(0, false, 5L), true);
        Check.due("a READ looks whether it is there", x.fresh(a), false);
        Check.due("MISSING", x.run(a), -3);
        Check.due("MISSING is fresh", x.fresh(a), true);
        Check.due("b probed it there", x.fresh(b), false);
        for (int number : NO_NUMBERS) {
            Check.due("fresh(" + number + ")", x.fresh(number), false);
        }
        Check.due("fresh(2)", x.fresh(2), false);
    }

    private static void promise11MissingIsANeed() {
        Check.part("promise 11, what is missing is a need");
        DynamicNeeds x = withFiles(2, 4L, 6L);
        int a = maker(x, NONE, READ, 0);
        int b = maker(x, NONE, PROBE, 1);
        x.change(0, false, 0L);
        x.change(1, false, 0L);
        Check.due("run", x.run(a), -3);
        Check.due("run", x.run(b), 1);
        Check.due("a", x.fresh(a), true);
        Check.due("b", x.fresh(b), true);
        x.change(0, true, 0L);
        x.change(1, true, 0L);
        Check.due("a, there with digest 0", x.fresh(a), false);
        Check.due("b", x.fresh(b), false);
        x.change(0, false, 77L);
        x.change(1, false, 77L);
        Check.due("a, away with another digest", x.fresh(a), true);
        Check.due("b", x.fresh(b), true);
    }

    private static void promise11MadeLater() {
        Check.part("promise 11, made later");
        DynamicNeeds x = withFiles(2, 4L, 6L, 8L);
        int a = maker(x, NONE, PROBE, 1);
        x.change(1, false, 0L);
        Check.due("run", x.run(a), 1);
        int b = maker(x, 1, READ, 0);
        Check.due("as it was, but its maker isn't fresh", x.fresh(a), false);
        x.change(0, false, 0L);
        Check.due("run", x.run(b), -3);
        Check.due("its maker is fresh, and it isn't there", x.fresh(a), true);
        x.change(0, true, 1L);
        Check.due("not fresh", x.fresh(a), false);
        Check.due("run", x.run(b), 1);
        Check.due("it is there now", x.fresh(a), false);
        int lone = maker(x, NONE, READ, 2);
        Check.due("run", x.run(lone), 1);
        int c = maker(x, 2, NONE, 0);
        Check.due("it isn't there now", x.fresh(lone), false);
        Check.due("run", x.run(c), 1);
        Check.due("another digest", x.fresh(lone), false);
    }

    private static void promise12() {
        Check.part("promise 12");
        DynamicNeeds x = withFiles(2, 4L, 6L, 8L, 2L);
        int a = maker(x, NONE, PROBE, 2);
        x.row(a, READ, 1);
        x.row(a, PROBE, 0);
        x.row(a, READ, 2);
        x.row(a, PROBE, 1);
        x.row(a, READ, 3);
        x.row(a, READ, 0);
        x.change(0, false, 0L);
        x.change(3, false, 0L);
        Check.due("before", x.kept(a, 0, 0), NONE);
        Check.due("run", x.run(a), -3);
        int[][] notes = {{2, 1, 1}, {1, 1, 1}, {0, 0, 0}, {3, 0, 1}};
        for (int i = 0; i < notes.length; i++) {
            for (int what = 0; what < 3; what++) {
                Check.due("kept(a, " + i + ", " + what + ")", x.kept(a, i, what), notes[i][what]);
            }
            Check.due("what -1", x.kept(a, i, -1), NONE);
            Check.due("what 3", x.kept(a, i, 3), NONE);
            Check.due("what least", x.kept(a, i, Integer.MIN_VALUE), NONE);
        }
        Check.due("kept(a, 4, 0)", x.kept(a, 4, 0), NONE);
        for (int number : NO_NUMBERS) {
            Check.due("kept(a, " + number + ", 0)", x.kept(a, number, 0), NONE);
            Check.due("kept(" + number + ", 0, 0)", x.kept(number, 0, 0), NONE);
        }
        Check.due("kept(1, 0, 0)", x.kept(1, 0, 0), NONE);
        Check.due("kept stays while it isn't fresh", x.change(0, true, 1L), true);
        Check.due("fresh", x.fresh(a), false);
        Check.due("as it was noted", x.kept(a, 2, 1), 0);
        x.change(3, true, 1L);
        Check.due("run", x.run(a), 1);
        Check.due("READ behind a PROBE", x.kept(a, 2, 2), 1);
        x.change(0, true, 2L);
        Check.due("its digest was noted", x.fresh(a), false);
        int refused = x.action(1);
        x.row(refused, READ, 0);
        Check.due("run", x.run(refused), 1);
        Check.due("kept", x.kept(refused, 0, 0), 0);
        x.row(refused, READ, 1);
        Check.due("REFUSED", x.run(refused), -1);
        Check.due("nothing of a refused try", x.kept(refused, 0, 0), NONE);
        promise12Anew();
        DynamicNeeds y = new DynamicNeeds(1);
        int most = y.action(ALL);
        for (int i = 0; i < 12; i++) {
            y.file(2L);
            y.row(most, READ, i);
        }
        Check.due("run", y.run(most), 1);
        Check.due("kept(most, 11, 0)", y.kept(most, 11, 0), 11);
        Check.due("kept(most, 12, 0)", y.kept(most, 12, 0), NONE);
    }

    /** What one try noted leaves no trace in the notes of the next one. */
    private static void promise12Anew() {
        DynamicNeeds x = withFiles(2, 4L, 6L, 8L);
        int a = maker(x, NONE, READ, 0);
        x.row(a, SKIP, 1);
        x.row(a, READ, 1);
        x.row(a, PROBE, 2);
        Check.due("run", x.run(a), 1);
        Check.due("the second was READ", x.kept(a, 1, 2), 1);
        Check.due("change", x.change(0, true, 5L), true);
        Check.due("run", x.run(a), 1);
        Check.due("another is the second now", x.kept(a, 1, 0), 2);
        Check.due("it was probed", x.kept(a, 1, 2), 0);
        Check.due("no third", x.kept(a, 2, 0), NONE);
        Check.due("change", x.change(2, true, 9L), true);
        Check.due("a PROBE looks at no digest", x.fresh(a), true);
    }

    private static void promise13() {
        Check.part("promise 13");
        DynamicNeeds x = withFiles(2, 4L, 6L, 8L);
        int a = x.action(0b11011);
        int b = x.action(ALL);
        Check.due("nothing kept", x.unused(a), 0b011);
        Check.due("nothing kept", x.unused(b), 0b111);
        x.row(a, PROBE, 1);
        Check.due("run", x.run(a), 1);
        Check.due("one kept", x.unused(a), 0b001);
        Check.due("file", x.file(1L), 3);
        Check.due("one that came later", x.unused(a), 0b1001);
        x.change(3, false, 0L);
        Check.due("one that isn't there", x.unused(a), 0b1001);
        x.change(1, false, 0L);
        Check.due("kept, but not fresh", x.unused(a), 0b1001);
        x.row(a, READ, 2);
        Check.due("kept no more", x.unused(a), 0b1011);
        Check.due("REFUSED", x.run(a), -1);
        Check.due("nothing kept", x.unused(a), 0b1011);
        Check.due("nothing noted", x.run(b), 1);
        Check.due("nothing noted", x.unused(b), 0b1111);
        for (int number : NO_NUMBERS) {
            Check.due("unused(" + number + ")", x.unused(number), 0);
        }
        Check.due("unused(2)", x.unused(2), 0);
        DynamicNeeds y = new DynamicNeeds(1);
        y.action(ALL);
        Check.due("no files", y.unused(0), 0);
        for (int i = 0; i < 24; i++) {
            y.file(i);
        }
        Check.due("all files", y.unused(0), (1 << 24) - 1);
        y.row(0, READ, 23);
        Check.due("run", y.run(0), 1);
        Check.due("all but the last", y.unused(0), (1 << 23) - 1);
    }

    private static void promise14() {
        Check.part("promise 14");
        DynamicNeeds x = withFiles(2, -1L, 0L, 7L);
        Check.due("digest(0)", x.digest(0), -1L);
        Check.due("digest(1)", x.digest(1), 0L);
        x.change(0, false, 5L);
        Check.due("away", x.digest(0), 0L);
        int a = maker(x, 2, NONE, 0);
        Check.due("made, not yet there", x.digest(2), 0L);
        Check.due("run", x.run(a), 1);
        Check.due("the first sum", x.digest(2), 7L);
        for (int number : NO_NUMBERS) {
            Check.due("digest(" + number + ")", x.digest(number), 0L);
        }
        Check.due("digest(3)", x.digest(3), 0L);
    }

    private static void promise15() {
        Check.part("promise 15");
        DynamicNeeds x = withFiles(2, 1L, 0L);
        int base = maker(x, 1, READ, 0);
        int a = maker(x, NONE, READ, 1);
        int[][] dues = {{0, 0, 1, 1}, {0, 0, 2, 2}, {-2, 0, 2, 0}, {0, 0, 3, 1}};
        for (int[] due : dues) {
            countedAfterRun(x, a, due);
        }
        countedAfterRun(x, base, new int[] {1, 0, 1, 0});
        countedAfterRun(x, a, new int[] {1, 0, 4, 0});
        countedAfterRun(x, a, new int[] {1, 1, 4, 0});
        countedAfterRun(x, a, new int[] {1, 2, 4, 0});
        x.change(0, false, 0L);
        countedAfterRun(x, base, new int[] {-3, 0, 2, 0});
        countedAfterRun(x, base, new int[] {-3, 1, 2, 0});
        countedAfterRun(x, a, new int[] {-3, 2, 5, 0});
        int refused = x.action(0);
        x.row(refused, READ, 0);
        countedAfterRun(x, refused, new int[] {-1, 0, 1, 0});
        Check.due("what -1", x.counted(a, -1), NONE);
        Check.due("what 3", x.counted(a, 3), NONE);
        Check.due("what greatest", x.counted(a, Integer.MAX_VALUE), NONE);
        for (int number : NO_NUMBERS) {
            Check.due("counted(" + number + ", 0)", x.counted(number, 0), NONE);
        }
        Check.due("counted(3, 1)", x.counted(3, 1), NONE);
    }

    private static void countedAfterRun(DynamicNeeds x, int action, int[] due) {
        Check.due("run", x.run(action), due[0]);
        for (int what = 0; what < 3; what++) {
            Check.due("counted(" + action + ", " + what + ")", x.counted(action, what), due[1 + what]);
        }
    }

    private static void promise16() {
        Check.part("promise 16");
        long[][] trees = {{0, 0}, {1, 1}, {4, 4}, {5, 0}, {13, 3}, {-1, 4}, {-2, 3}, {-3, 2}, {-4, 1}, {-5, 0},
            {-6, 4}, {Long.MAX_VALUE, 2}, {Long.MIN_VALUE, 2}};
        for (long[] tree : trees) {
            Check.due("members of " + tree[0], withTree(tree[0]).members(1), tree[1]);
        }
        DynamicNeeds x = withTree(4L);
        Check.due("not made", x.members(2), 0);
        x.change(0, true, 1L);
        Check.due("not fresh", x.members(1), 4);
        x.change(0, false, 1L);
        Check.due("run", x.run(0), -3);
        Check.due("not there", x.members(1), 0);
        for (int number : NO_NUMBERS) {
            Check.due("members(" + number + ")", x.members(number), 0);
        }
        Check.due("members(3)", x.members(3), 0);
    }

    private static void promise17() {
        Check.part("promise 17");
        DynamicNeeds x = withTree(1L);
        for (int number : NO_NUMBERS) {
            Check.due("mapping(" + number + ", 1)", x.mapping(number, 1L), NONE);
        }
        Check.due("mapping(3, 1)", x.mapping(3, 1L), NONE);
        for (int i = 0; i < 6; i++) {
            Check.due("mapping " + i, x.mapping(i % 3, i), i);
        }
        Check.due("mapping 7", x.mapping(1, 1L), NONE);
        Check.due("mapping 8", x.mapping(0, 1L), NONE);
        Check.due("map(1)", x.map(1), 1);
        Check.due("map(4)", x.map(4), 1);
        Check.due("own salt", x.result(1, 0), 17L + 1L);
        Check.due("own salt", x.result(4, 0), 17L + 4L);
        Check.due("map(6)", x.map(6), NONE);
    }

    private static void promise18() {
        Check.part("promise 18");
        DynamicNeeds x = withTree(4L);
        Check.due("mapping", x.mapping(1, 100L), 0);
        Check.due("mapping of one that isn't made", x.mapping(0, 100L), 1);
        Check.due("map", x.map(0), 4);
        Check.due("again", x.map(0), 0);
        Check.due("isn't made", x.map(1), NONE);
        x.change(0, true, 3L);
        Check.due("isn't fresh", x.map(0), NONE);
        Check.due("nothing changes", x.result(0, 3), 17L * (4L ^ 3000009L) + 100L);
        Check.due("run", x.run(0), 1);
        Check.due("no members", x.map(0), 0);
        Check.due("no results", x.result(0, 0), 0L);
        x.change(0, false, 3L);
        Check.due("run", x.run(0), -3);
        Check.due("fresh", x.fresh(0), true);
        Check.due("isn't there", x.map(0), NONE);
        reshape(x, 4L);
        Check.due("all anew, as there were none before", x.map(0), 4);
        reshape(x, 9L);
        Check.due("others", x.map(0), 4);
        reshape(x, 1L);
        Check.due("map", x.map(0), 1);
        reshape(x, 9L);
        Check.due("only the map before counts", x.map(0), 4);
        for (int number : NO_NUMBERS) {
            Check.due("map(" + number + ")", x.map(number), NONE);
        }
        Check.due("map(2)", x.map(2), NONE);
        Check.due("mapping made later", x.mapping(1, 100L), 2);
        Check.due("others' members don't count", x.map(2), 4);
        Check.due("makes", x.makes(x.action(ALL), 0), true);
        Check.due("made, but never run", x.map(1), NONE);
    }

    private static void promise18MovedMembers() {
        Check.part("promise 18, moved members");
        long step = 1000003L;
        // Both trees have 2 members at least, and xor with the step swaps the first two: they move,
        // but their digests stay.
        long first = 0L;
        while (Math.floorMod(first, 5L) < 2 || Math.floorMod(first ^ step, 5L) < 2) {
            first++;
        }
        DynamicNeeds x = withTree(first);
        Check.due("mapping", x.mapping(1, -3L), 0);
        Check.due("map", x.map(0), Math.floorMod(first, 5L));
        reshape(x, first ^ step);
        int size = (int) Math.floorMod(first ^ step, 5L);
        int anew = 0;
        for (int i = 0; i < size; i++) {
            boolean like = false;
            for (int j = 0; j < Math.floorMod(first, 5L); j++) {
                like |= (first ^ step ^ (i * step)) == (first ^ (j * step));
            }
            anew += like ? 0 : 1;
        }
        Check.due("two at least moved", size - anew >= 2, true);
        Check.due("moved ones aren't worked out anew", x.map(0), anew);
        for (int i = 0; i < size; i++) {
            Check.due("result", x.result(0, i), 17L * (first ^ step ^ (i * step)) - 3L);
        }
    }

    private static void promise19() {
        Check.part("promise 19");
        DynamicNeeds x = withTree(-1L);
        Check.due("mapping", x.mapping(1, Long.MAX_VALUE), 0);
        Check.due("before", x.result(0, 0), 0L);
        Check.due("map", x.map(0), 4);
        for (int i = 0; i < 4; i++) {
            Check.due("result", x.result(0, i), 17L * (-1L ^ (i * 1000003L)) + Long.MAX_VALUE);
        }
        Check.due("result(0, 4)", x.result(0, 4), 0L);
        for (int number : NO_NUMBERS) {
            Check.due("result(0, " + number + ")", x.result(0, number), 0L);
            Check.due("result(" + number + ", 0)", x.result(number, 0), 0L);
        }
        Check.due("result(1, 0)", x.result(1, 0), 0L);
        reshape(x, 11L);
        Check.due("the latest map's", x.result(0, 3), 17L * (-1L ^ 3000009L) + Long.MAX_VALUE);
        Check.due("map", x.map(0), 1);
        Check.due("result", x.result(0, 0), 187L + Long.MAX_VALUE);
        Check.due("no second one", x.result(0, 1), 0L);
    }
}
