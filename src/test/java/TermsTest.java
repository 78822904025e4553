import java.math.BigInteger;

/** For each sentence of the document's Terms that names a boundary case, a test of its own. */
public final class TermsTest extends Scene {
    private static final long STEP = 1000003L;
    private static final long[] EXTREMES = {0L, 1L, -1L, 2L, -2L, Long.MAX_VALUE, Long.MIN_VALUE, Long.MAX_VALUE - 1L,
        Long.MIN_VALUE + 1L, 1L << 32, 1L << 31, -(1L << 31), 0xFFFFFFFFL};

    public static void main(String[] args) {
        holdings();
        skips();
        tries();
        keeping();
        freshness();
        running();
        resolving();
        trees();
        Check.end();
    }

    private static void holdings() {
        Check.sentence("FILES, at most 24, numbered from 0", TermsTest::mostFiles);
        Check.sentence("FILES are there with a DIGEST (64 bits)", TermsTest::digestsOf64Bits);
        Check.sentence("FILES are there with a DIGEST or aren't", TermsTest::thereWithDigest0);
        Check.sentence("at most one ACTION MAKES a FILE", TermsTest::oneMaker);
        Check.sentence("ACTIONS, at most 12, numbered from 0", TermsTest::mostActions);
        Check.sentence("ACTIONS have ALLOWED FILES", TermsTest::allowedOneByOne);
        Check.sentence("ACTIONS have at most 12 ROWS", TermsTest::mostRows);
        Check.sentence("ACTIONS have perhaps one FILE that they MAKE: none", TermsTest::makesNone);
        Check.sentence("ACTIONS have perhaps one FILE that they MAKE: one", TermsTest::makesOne);
        Check.sentence("MAPPINGS, at most 6, numbered from 0", TermsTest::mostMappings);
        Check.sentence("MAPPINGS of a FILE: several of one", TermsTest::mappingsOfOneFile);
        Check.sentence("NONE = -1", () -> Check.due("NONE", DynamicNeeds.NONE, -1));
    }

    private static void skips() {
        Check.sentence("SKIP: if the DIGEST is odd", TermsTest::skipIfOdd);
        Check.sentence("SKIP: the FILE that was READ last, not an earlier one", TermsTest::skipByTheLast);
        Check.sentence("SKIP: the FILE that was READ, not PROBED", TermsTest::skipNotByProbes);
        Check.sentence("SKIP: 0 before anything was READ", TermsTest::skipBeforeAnyRead);
        Check.sentence("SKIP: READ in this try, not in one before", TermsTest::skipOfThisTry);
        Check.sentence("SKIP: the next n ROWS (1 .. 8)", TermsTest::skipExactly);
        Check.sentence("SKIP: as far as there are some", TermsTest::skipBeyondTheEnd);
        Check.sentence("SKIP: the ROWS left out may be SKIPS", TermsTest::skipOfSkips);
        Check.sentence("SKIP: what is left out isn't looked at", TermsTest::skipLooksAtNothing);
    }

    private static void tries() {
        Check.sentence("a SUM, 7 at first; at the end it is DONE: without ROWS", TermsTest::noRows);
        Check.sentence("a SUM, 7 at first: in each TRY", TermsTest::eachTrysSum);
        Check.sentence("goes through its ROWS in order", TermsTest::rowsInOrder);
        Check.sentence("if the FILE isn't ALLOWED, REFUSED (- 1): READ", () -> refusedRow(READ));
        Check.sentence("if the FILE isn't ALLOWED, REFUSED (- 1): PROBE", () -> refusedRow(PROBE));
        Check.sentence("REFUSED: also if it isn't FRESH", TermsTest::refusedBeforeWaits);
        Check.sentence("REFUSED: also if it isn't there", TermsTest::refusedBeforeMissing);
        Check.sentence("REFUSED: the TRY ends", TermsTest::refusedEnds);
        Check.sentence("REFUSED: also its own FILE", TermsTest::refusedOwnFile);
        Check.sentence("it WAITS (0): READ", () -> waitingRow(READ));
        Check.sentence("it WAITS (0): PROBE", () -> waitingRow(PROBE));
        Check.sentence("it WAITS: also if the FILE isn't there", TermsTest::waitsBeforeMissing);
        Check.sentence("it WAITS: also if the FILE is there of old", TermsTest::waitsForOneOfOld);
        Check.sentence("it WAITS: also for its own FILE", TermsTest::waitsForItself);
        Check.sentence("it WAITS: the TRY ends", TermsTest::waitsForTheFirst);
        Check.sentence("a FILE that none MAKES isn't waited for", TermsTest::noWaitForSources);
        Check.sentence("noted, once each", TermsTest::notedOnce);
        Check.sentence("noted: by this TRY, not by one before", TermsTest::notedByThisTry);
        Check.sentence("a READ behind a PROBE notes the DIGEST, too", TermsTest::readBehindProbe);
        Check.sentence("a PROBE behind a READ takes nothing back", TermsTest::probeBehindRead);
        Check.sentence("(READ alone) its DIGEST", TermsTest::probeNotesNoDigest);
        Check.sentence("READ of one that isn't there: MISSING (- 3)", TermsTest::missingRead);
        Check.sentence("MISSING: the TRY ends", TermsTest::missingEnds);
        Check.sentence("MISSING: a FILE that is made and FRESH", TermsTest::missingMadeFile);
        Check.sentence("PROBE of one that isn't there goes on", TermsTest::missingProbe);
        Check.sentence("PROBE: SUM = 31 SUM + 1 if it is there, else 31 SUM + 2", TermsTest::probeSums);
        Check.sentence("Sums are modulo 2 to the 64", TermsTest::sumsModulo);
    }

    private static void keeping() {
        Check.sentence("DONE: what was noted is KEPT", TermsTest::doneKeeps);
        Check.sentence("MISSING: what was noted is KEPT", TermsTest::missingKeeps);
        Check.sentence("DONE: the FILE is there with the DIGEST SUM: 0", TermsTest::sumOf0);
        Check.sentence("MISSING: the FILE that it MAKES isn't there", TermsTest::missingTakesAway);
        Check.sentence("Else what was KEPT before goes: REFUSED", TermsTest::refusedForgets);
        Check.sentence("Else what was KEPT before goes: WAITS", TermsTest::waitsForgets);
        Check.sentence("Else the FILE that it MAKES stays: REFUSED", TermsTest::refusedLeavesItsFile);
        Check.sentence("Else the FILE that it MAKES stays: WAITS, STOPPED", TermsTest::waitsLeavesItsFile);
    }

    private static void freshness() {
        Check.sentence("FRESH if something is KEPT", TermsTest::nothingKept);
        Check.sentence("FRESH: no FILE was noted", TermsTest::freshWithoutNotes);
        Check.sentence("FRESH: each FILE is there as it was", TermsTest::freshAsItWas);
        Check.sentence("FRESH: with the same DIGEST (if it was READ)", TermsTest::freshSameDigest);
        Check.sentence("FRESH: any DIGEST if it was PROBED", TermsTest::freshProbed);
        Check.sentence("FRESH: each FILE, the last too", TermsTest::freshEachFile);
        Check.sentence("FRESH: if an ACTION MAKES it, that is FRESH", TermsTest::freshMakers);
        Check.sentence("FRESH: one that is made later", TermsTest::freshMadeLater);
        Check.sentence("just the least such are: a ring that was none", TermsTest::leastOfARing);
        Check.sentence("just the least such are: a line of 12", TermsTest::freshLine);
        Check.sentence("A FILE that is made is FRESH if its ACTION is: not there", TermsTest::freshNotThere);
    }

    private static void running() {
        Check.sentence("if it is FRESH, it is REUSED: its outcome DONE", TermsTest::reusedDone);
        Check.sentence("if it is FRESH, it is REUSED: its outcome MISSING", TermsTest::reusedMissing);
        Check.sentence("as many TRIES as it may: STOPPED (- 2)", TermsTest::stoppedBehindTries);
        Check.sentence("since it was DONE", TermsTest::triesSinceDone);
        Check.sentence("since it was MISSING", TermsTest::triesSinceMissing);
        Check.sentence("since it was REFUSED", TermsTest::triesSinceRefused);
        Check.sentence("since it was STOPPED: the TRIES begin anew", TermsTest::triesSinceStopped);
        Check.sentence("REUSED before STOPPED", TermsTest::reusedIsNoTry);
        Check.sentence("STOPPED: no TRY", TermsTest::stoppedIsNoTry);
        Check.sentence("STOPPED: what was KEPT goes", TermsTest::stoppedKeepsNothing);
    }

    private static void resolving() {
        Check.sentence("RESOLVING one that doesn't WAIT", TermsTest::resolveWithoutWait);
        Check.sentence("as long as it WAITS: several times", TermsTest::resolveSeveralWaits);
        Check.sentence("as long as it WAITS: until it is STOPPED", TermsTest::resolveStopsItself);
        Check.sentence("is RESOLVED likewise: 12 deep", TermsTest::resolveDeep);
        Check.sentence("is RESOLVED likewise: once, for two that need it", TermsTest::resolveDiamond);
        Check.sentence("a RING is told (- 5): of one", TermsTest::ringOfOne);
        Check.sentence("a RING is told (- 5): of 12", TermsTest::ringOfTwelve);
        Check.sentence("a RING is told (- 5): behind a way to it", TermsTest::ringBehindAWay);
        Check.sentence("a RING: all ends", TermsTest::ringEndsAll);
        Check.sentence("a RING: STOPPED when the TRIES are over", TermsTest::ringUntilStopped);
        Check.sentence("If another one on the way is REFUSED, all ends (- 1)", TermsTest::refusedOnTheWay);
        Check.sentence("If another one on the way is STOPPED, all ends (- 2)", TermsTest::stoppedOnTheWay);
        Check.sentence("another one on the way is MISSING: it goes on", TermsTest::missingOnTheWay);
    }

    private static void trees() {
        Check.sentence("MEMBERS: the remainder by 5 (0 .. 4)", TermsTest::membersOfPositive);
        Check.sentence("MEMBERS: also of numbers below 0", TermsTest::membersOfNegative);
        Check.sentence("MEMBER i: D xor i * 1000003", TermsTest::memberDigests);
        Check.sentence("RESULT: 17 times its DIGEST and the SALT, modulo 2 to the 64", TermsTest::resultsModulo);
        Check.sentence("MAPPING the first time: all anew", TermsTest::firstMap);
        Check.sentence("like one of the MEMBERS before: none anew", TermsTest::sameMembers);
        Check.sentence("like one of the MEMBERS before: at another place", TermsTest::movedMembers);
        Check.sentence("by the MAPPING before: not by one before that", TermsTest::onlyTheMapBefore);
        Check.sentence("by the MAPPING before: of no MEMBERS", TermsTest::mapOfNoMembers);
        Check.sentence("by the MAPPING before: of fewer MEMBERS", TermsTest::mapOfFewer);
        Check.sentence("by the MAPPING before: not by another one", TermsTest::otherMapping);
    }

    // FILES, ACTIONS, ROWS, MAPPINGS: how many there are

    private static DynamicNeeds with24Files() {
        DynamicNeeds x = new DynamicNeeds(2);
        for (int i = 0; i < 24; i++) {
            Check.due("file " + i, x.file(100L + 2L * i), i);
        }
        return x;
    }

    private static void mostFiles() {
        DynamicNeeds x = with24Files();
        Check.due("a 25th", x.file(1L), NONE);
        for (int i = 0; i < 24; i++) {
            Check.due("digest(" + i + ")", x.digest(i), 100L + 2L * i);
        }
        int a = reader(x, 1 << 23, READ, 23);
        Check.due("makes the first", x.makes(a, 0), true);
        Check.due("run", x.run(a), 1);
        keeps(x, a, 23, 1, 1);
        int b = reader(x, 1, READ, 0);
        Check.due("makes the last", x.makes(b, 23), true);
        Check.due("READ of a 25th", x.row(a, READ, 24), false);
    }

    private static void digestsOf64Bits() {
        for (long digest : EXTREMES) {
            DynamicNeeds x = withFiles(1, digest);
            Check.due("digest", x.digest(0), digest);
            Check.due("change", x.change(0, true, ~digest), true);
            Check.due("digest", x.digest(0), ~digest);
            int a = reader(x, ALL, READ, 0);
            Check.due("run", x.run(a), 1);
            Check.due("the high half changes", x.change(0, true, ~digest ^ (1L << 63)), true);
            Check.due("fresh", x.fresh(a), false);
        }
    }

    private static void thereWithDigest0() {
        DynamicNeeds x = withFiles(2, 0L, 5L);
        int reads = reader(x, ALL, READ, 0);
        int probes = maker(x, 1, PROBE, 0);
        Check.due("there", x.run(reads), 1);
        Check.due("there", x.run(probes), 1);
        Check.due("there", x.digest(1), SUM_OFFSET + 1L);
        Check.due("away", x.change(0, false, 0L), true);
        Check.due("not as it was", x.fresh(reads), false);
        Check.due("not as it was", x.fresh(probes), false);
        Check.due("not there", x.run(reads), -3);
        Check.due("not there", x.run(probes), 1);
        Check.due("not there", x.digest(1), SUM_OFFSET + 2L);
    }

    private static void oneMaker() {
        DynamicNeeds x = withFiles(2, 1L, 2L);
        int a = maker(x, 0, NONE, 0);
        int b = maker(x, NONE, READ, 1);
        Check.due("a second maker", x.makes(b, 0), false);
        Check.due("run", x.run(b), 1);
        Check.due("it made nothing", x.digest(0), 0L);
        Check.due("run", x.run(a), 1);
        Check.due("the first made it", x.digest(0), 7L);
        Check.due("a second maker", x.makes(b, 0), false);
        Check.due("still there", x.digest(0), 7L);
    }

    private static void mostActions() {
        DynamicNeeds x = withFiles(2, 1L);
        for (int i = 0; i < 12; i++) {
            Check.due("action " + i, x.action(ALL), i);
        }
        Check.due("a 13th", x.action(ALL), NONE);
        Check.due("the last makes", x.makes(11, 0), true);
        Check.due("the last runs", x.run(11), 1);
        Check.due("the last is fresh", x.fresh(11), true);
        Check.due("the first isn't", x.fresh(0), false);
        Check.due("a 13th isn't", x.run(12), -9);
    }

    private static void allowedOneByOne() {
        for (int file = 0; file < 24; file++) {
            DynamicNeeds x = with24Files();
            int other = (file + 1) % 24;
            Check.due("READ of the one", x.run(reader(x, 1 << file, READ, file)), 1);
            Check.due("PROBE of the one", x.run(reader(x, 1 << file, PROBE, file)), 1);
            Check.due("READ of another", x.run(reader(x, 1 << file, READ, other)), -1);
            Check.due("READ of the one, all others allowed", x.run(reader(x, ~(1 << file), READ, file)), -1);
            Check.due("READ of another, all others allowed", x.run(reader(x, ~(1 << file), READ, other)), 1);
        }
    }

    private static void mostRows() {
        DynamicNeeds x = withFiles(1, 3L, 5L);
        int a = maker(x, 1, NONE, 0);
        long sum = 7L;
        for (int i = 0; i < 12; i++) {
            Check.due("row " + i, x.row(a, READ, 0), true);
            sum = 31L * sum + 3L;
        }
        Check.due("a 13th", x.row(a, READ, 0), false);
        Check.due("run", x.run(a), 1);
        Check.due("all 12 are gone through, no 13th", x.digest(1), sum);
    }

    private static void makesNone() {
        DynamicNeeds x = withFiles(1, 3L, 5L);
        int a = reader(x, ALL, READ, 0);
        Check.due("DONE", x.run(a), 1);
        Check.due("nothing made", x.digest(0), 3L);
        Check.due("nothing made", x.digest(1), 5L);
        x.change(0, false, 0L);
        Check.due("MISSING", x.run(a), -3);
        Check.due("nothing taken away", x.digest(1), 5L);
        Check.due("no members", x.members(1), 0);
    }

    private static void makesOne() {
        DynamicNeeds x = withFiles(1, 3L, 5L, 6L);
        int a = maker(x, 1, READ, 0);
        Check.due("a second file", x.makes(a, 2), false);
        Check.due("run", x.run(a), 1);
        Check.due("the one is made", x.digest(1), SUM_OFFSET + 3L);
        Check.due("the other isn't", x.digest(2), 6L);
        Check.due("the other can be changed", x.change(2, true, 8L), true);
    }

    private static void mostMappings() {
        DynamicNeeds x = withTree(4L);
        for (int i = 0; i < 6; i++) {
            Check.due("mapping " + i, x.mapping(1, i), i);
        }
        Check.due("a 7th", x.mapping(1, 9L), NONE);
        Check.due("the last maps", x.map(5), 4);
        Check.due("the last's result", x.result(5, 0), 17L * 4L + 5L);
        Check.due("the first's result", x.result(0, 0), 0L);
        Check.due("a 7th doesn't map", x.map(6), NONE);
    }

    private static void mappingsOfOneFile() {
        DynamicNeeds x = withTree(1L);
        Check.due("mapping", x.mapping(1, 3L), 0);
        Check.due("the same again", x.mapping(1, 3L), 1);
        Check.due("map", x.map(0), 1);
        Check.due("result", x.result(0, 0), 20L);
        Check.due("the other's result", x.result(1, 0), 0L);
        Check.due("map the other", x.map(1), 1);
        Check.due("result", x.result(1, 0), 20L);
    }

    // SKIP

    /** READ of the file 0 of a digest, SKIP of one, PROBE of the file 1: is that left out? */
    private static void skipCase(long digest, boolean leftOut) {
        DynamicNeeds x = withFiles(1, digest, 2L);
        int a = reader(x, ALL, READ, 0, SKIP, 1, PROBE, 1);
        Check.due("run", x.run(a), 1);
        Check.due("left out behind " + digest, x.kept(a, 1, 0), leftOut ? NONE : 1);
    }

    private static void skipIfOdd() {
        for (long digest : EXTREMES) {
            skipCase(digest, BigInteger.valueOf(digest).testBit(0));
        }
        skipCase(-3L, true);
        skipCase(3L, true);
        skipCase(-4L, false);
    }

    private static void skipByTheLast() {
        DynamicNeeds x = withFiles(1, 1L, 2L, 4L);
        int even = reader(x, ALL, READ, 0, READ, 1, SKIP, 1, PROBE, 2);
        int odd = reader(x, ALL, READ, 1, READ, 0, SKIP, 1, PROBE, 2);
        Check.due("run", x.run(even), 1);
        Check.due("the last is even", x.kept(even, 2, 0), 2);
        Check.due("run", x.run(odd), 1);
        Check.due("the last is odd", x.kept(odd, 2, 0), NONE);
    }

    private static void skipNotByProbes() {
        DynamicNeeds x = withFiles(1, 1L, 2L, 4L);
        int even = reader(x, ALL, READ, 1, PROBE, 0, SKIP, 1, PROBE, 2);
        int odd = reader(x, ALL, READ, 0, PROBE, 1, SKIP, 1, PROBE, 2);
        Check.due("run", x.run(even), 1);
        Check.due("an odd one was probed", x.kept(even, 2, 0), 2);
        Check.due("run", x.run(odd), 1);
        Check.due("an even one was probed", x.kept(odd, 2, 0), NONE);
    }

    private static void skipBeforeAnyRead() {
        DynamicNeeds x = withFiles(1, 1L, 3L);
        int first = reader(x, ALL, SKIP, 8, READ, 0);
        Check.due("run", x.run(first), 1);
        keeps(x, first, 0, 1, 1);
        int probed = reader(x, ALL, PROBE, 0, SKIP, 8, PROBE, 1);
        Check.due("run", x.run(probed), 1);
        keeps(x, probed, 0, 1, 0, 1, 1, 0);
    }

    private static void skipOfThisTry() {
        DynamicNeeds x = withFiles(1, 4L, 3L);
        int a = reader(x, ALL, SKIP, 1, PROBE, 0, READ, 1);
        Check.due("an odd one is READ last", x.run(a), 1);
        x.change(0, false, 0L);
        Check.due("the next try begins anew", x.run(a), 1);
        keeps(x, a, 0, 0, 0, 1, 1, 1);
        int b = reader(x, ALL, SKIP, 1, READ, 1);
        Check.due("another's try before", x.run(b), 1);
        keeps(x, b, 1, 1, 1);
    }

    private static void skipExactly() {
        for (int n = 1; n <= 8; n++) {
            DynamicNeeds x = with24Files();
            Check.due("change", x.change(0, true, 1L), true);
            int a = reader(x, ALL, READ, 0, SKIP, n);
            for (int i = 1; i <= 10; i++) {
                rows(x, a, PROBE, i);
            }
            Check.due("run", x.run(a), 1);
            Check.due("the first behind SKIP " + n, x.kept(a, 1, 0), n + 1);
            Check.due("the last", x.kept(a, 10 - n, 0), 10);
            Check.due("no more", x.kept(a, 11 - n, 0), NONE);
        }
    }

    private static void skipBeyondTheEnd() {
        for (int n = 1; n <= 8; n++) {
            DynamicNeeds x = withFiles(1, 1L, 2L);
            int last = reader(x, ALL, READ, 0, SKIP, n);
            Check.due("the last row", x.run(last), 1);
            keeps(x, last, 0, 1, 1);
            int nearly = reader(x, ALL, READ, 0, SKIP, n, READ, 1);
            Check.due("one row behind it", x.run(nearly), 1);
            keeps(x, nearly, 0, 1, 1);
            int full = reader(x, ALL, READ, 0, READ, 0, READ, 0, READ, 0, READ, 0, READ, 0, READ, 0, READ, 0, READ, 0,
                    READ, 0, READ, 0, SKIP, n);
            Check.due("the 12th row", x.run(full), 1);
            keeps(x, full, 0, 1, 1);
        }
    }

    private static void skipOfSkips() {
        DynamicNeeds x = withFiles(1, 1L, 2L, 4L);
        int a = reader(x, ALL, READ, 0, SKIP, 1, SKIP, 8, PROBE, 1, SKIP, 2, SKIP, 1, PROBE, 2, PROBE, 2);
        Check.due("run", x.run(a), 1);
        keeps(x, a, 0, 1, 1, 1, 1, 0, 2, 1, 0);
    }

    private static void skipLooksAtNothing() {
        DynamicNeeds x = withFiles(1, 1L, 2L, 4L, 6L);
        maker(x, 2, NONE, 0);
        x.change(3, false, 0L);
        int a = reader(x, 0b1101, READ, 0, SKIP, 3, READ, 1, READ, 2, READ, 3);
        Check.due("neither refused nor waiting nor missing", x.run(a), 1);
        keeps(x, a, 0, 1, 1);
    }

    // A TRY

    private static void noRows() {
        DynamicNeeds x = withFiles(1, 9L);
        int a = maker(x, 0, NONE, 0);
        Check.due("run", x.run(a), 1);
        Check.due("digest", x.digest(0), 7L);
        Check.due("run of one that makes none", x.run(x.action(0)), 1);
    }

    private static void eachTrysSum() {
        DynamicNeeds x = withFiles(3, 9L, 5L, 0L);
        int base = maker(x, 2, NONE, 0);
        int a = maker(x, 1, READ, 0);
        rows(x, a, READ, 2);
        Check.due("a try that waits", x.run(a), 0);
        Check.due("run", x.run(base), 1);
        Check.due("run", x.run(a), 1);
        Check.due("digest", x.digest(1), 31L * (31L * 7L + 9L) + 7L);
        x.change(0, true, 10L);
        Check.due("run", x.run(a), 1);
        Check.due("digest", x.digest(1), 31L * (31L * 7L + 10L) + 7L);
    }

    private static void rowsInOrder() {
        DynamicNeeds x = withFiles(1, 10L, 20L, 0L);
        int a = maker(x, 2, READ, 1);
        rows(x, a, PROBE, 0, READ, 0);
        Check.due("run", x.run(a), 1);
        Check.due("digest", x.digest(2), 31L * (31L * (31L * 7L + 20L) + 1L) + 10L);
        keeps(x, a, 1, 1, 1, 0, 1, 1);
    }

    private static void refusedRow(int kind) {
        DynamicNeeds x = withFiles(1, 10L, 20L);
        int a = reader(x, 0b01, kind, 0);
        Check.due("allowed", x.run(a), 1);
        rows(x, a, kind, 1);
        Check.due("not allowed", x.run(a), -1);
        Check.due("not allowed, again", x.run(a), -1);
        Check.due("nothing is allowed", x.run(reader(x, 0, kind, 0)), -1);
    }

    private static void refusedBeforeWaits() {
        DynamicNeeds x = withFiles(1, 10L);
        maker(x, 0, NONE, 0);
        int reads = reader(x, 0, READ, 0);
        int probes = reader(x, 0, PROBE, 0);
        Check.due("READ", x.run(reads), -1);
        Check.due("it waits for none", x.waits(reads), NONE);
        Check.due("PROBE", x.run(probes), -1);
        Check.due("it waits for none", x.waits(probes), NONE);
    }

    private static void refusedBeforeMissing() {
        DynamicNeeds x = withFiles(1, 10L);
        x.change(0, false, 0L);
        int a = reader(x, 0, READ, 0);
        Check.due("READ", x.run(a), -1);
        Check.due("nothing is kept", x.kept(a, 0, 0), NONE);
    }

    private static void refusedEnds() {
        DynamicNeeds x = withFiles(1, 10L, 20L, 0L, 0L);
        maker(x, 2, NONE, 0);
        x.change(1, false, 0L);
        int a = reader(x, 0b0110, READ, 0, READ, 2, READ, 1);
        Check.due("what is behind isn't looked at", x.run(a), -1);
        Check.due("it waits for none", x.waits(a), NONE);
        Check.due("it is over", x.counted(a, 2), 0);
        int b = reader(x, 0b0110, READ, 1, READ, 0);
        Check.due("MISSING in front of it", x.run(b), -3);
        int c = reader(x, 0b0110, PROBE, 2, READ, 0);
        Check.due("WAITS in front of it", x.run(c), 0);
    }

    private static void refusedOwnFile() {
        DynamicNeeds x = withFiles(1, 10L);
        int a = reader(x, 0, READ, 0);
        Check.due("makes", x.makes(a, 0), true);
        Check.due("run", x.run(a), -1);
        Check.due("it isn't made", x.digest(0), 0L);
    }

    private static void waitingRow(int kind) {
        DynamicNeeds x = withFiles(2, 10L, 20L);
        int base = maker(x, 1, NONE, 0);
        int a = reader(x, ALL, kind, 0, kind, 1);
        Check.due("run", x.run(a), 0);
        Check.due("waits", x.waits(a), 1);
        Check.due("nothing is kept", x.kept(a, 0, 0), NONE);
        Check.due("run", x.run(base), 1);
        Check.due("a second try", x.run(a), 1);
        Check.due("waits for none", x.waits(a), NONE);
    }

    private static void waitsBeforeMissing() {
        DynamicNeeds x = withFiles(2, 10L);
        maker(x, 0, NONE, 0);
        int a = reader(x, ALL, READ, 0);
        Check.due("digest", x.digest(0), 0L);
        Check.due("run", x.run(a), 0);
        Check.due("waits", x.waits(a), 0);
    }

    private static void waitsForOneOfOld() {
        DynamicNeeds x = withTree(4L);
        int a = reader(x, ALL, PROBE, 1);
        x.change(0, true, 1L);
        Check.due("there", x.digest(1), 4L);
        Check.due("run", x.run(a), 0);
        Check.due("waits", x.waits(a), 1);
        x.change(0, true, 4L - SUM_OFFSET);
        Check.due("FRESH again", x.run(a), 1);
    }

    private static void waitsForItself() {
        DynamicNeeds x = withFiles(2, 10L);
        int a = maker(x, 0, PROBE, 0);
        Check.due("run", x.run(a), 0);
        Check.due("waits", x.waits(a), 0);
        Check.due("tries", x.counted(a, 2), 1);
    }

    private static void waitsForTheFirst() {
        DynamicNeeds x = withFiles(9, 10L, 0L, 0L, 0L);
        maker(x, 1, NONE, 0);
        maker(x, 2, NONE, 0);
        x.change(3, false, 0L);
        int a = reader(x, 0b1110, PROBE, 2, PROBE, 1, READ, 3, READ, 0);
        Check.due("run", x.run(a), 0);
        Check.due("the first", x.waits(a), 2);
        Check.due("run", x.run(1), 1);
        Check.due("run", x.run(a), 0);
        Check.due("the second", x.waits(a), 1);
        Check.due("run", x.run(0), 1);
        Check.due("MISSING behind it", x.run(a), -3);
    }

    private static void noWaitForSources() {
        DynamicNeeds x = withFiles(1, 10L, 20L);
        int a = reader(x, ALL, PROBE, 0, READ, 1);
        Check.due("run", x.run(a), 1);
        Check.due("waits for none", x.waits(a), NONE);
        x.change(1, false, 0L);
        Check.due("run", x.run(a), -3);
        Check.due("waits for none", x.waits(a), NONE);
    }

    private static void notedOnce() {
        DynamicNeeds x = withFiles(1, 10L, 20L);
        int a = reader(x, ALL, READ, 1, READ, 1, PROBE, 0, PROBE, 0, READ, 1, PROBE, 1, PROBE, 0, READ, 0);
        Check.due("run", x.run(a), 1);
        keeps(x, a, 1, 1, 1, 0, 1, 1);
    }

    private static void notedByThisTry() {
        DynamicNeeds x = withFiles(1, 4L, 6L, 8L);
        int a = reader(x, ALL, READ, 0, SKIP, 1, READ, 1, PROBE, 2);
        Check.due("even", x.run(a), 1);
        keeps(x, a, 0, 1, 1, 1, 1, 1, 2, 1, 0);
        x.change(0, true, 5L);
        Check.due("odd", x.run(a), 1);
        keeps(x, a, 0, 1, 1, 2, 1, 0);
        x.change(1, true, 7L);
        x.change(2, true, 9L);
        Check.due("what it probes has no digest of a READ before", x.fresh(a), true);
        x.change(0, false, 5L);
        Check.due("missing", x.run(a), -3);
        keeps(x, a, 0, 0, 1);
    }

    private static void readBehindProbe() {
        DynamicNeeds x = withFiles(1, 10L, 20L);
        int a = reader(x, ALL, PROBE, 0, PROBE, 1, READ, 0);
        Check.due("run", x.run(a), 1);
        keeps(x, a, 0, 1, 1, 1, 1, 0);
        x.change(0, true, 12L);
        Check.due("its digest was noted", x.fresh(a), false);
        x.change(0, true, 10L);
        Check.due("its digest was noted", x.fresh(a), true);
        x.change(0, false, 10L);
        Check.due("a READ of a missing one behind a PROBE", x.run(a), -3);
        keeps(x, a, 0, 0, 1, 1, 1, 0);
    }

    private static void probeBehindRead() {
        DynamicNeeds x = withFiles(1, 10L, 20L);
        int a = reader(x, ALL, READ, 0, PROBE, 1, PROBE, 0);
        Check.due("run", x.run(a), 1);
        keeps(x, a, 0, 1, 1, 1, 1, 0);
        x.change(0, true, 12L);
        Check.due("its digest was noted", x.fresh(a), false);
        x.change(0, true, 10L);
        Check.due("its digest was noted", x.fresh(a), true);
    }

    private static void probeNotesNoDigest() {
        DynamicNeeds x = withFiles(1, 10L);
        int a = reader(x, ALL, PROBE, 0);
        Check.due("run", x.run(a), 1);
        keeps(x, a, 0, 1, 0);
        x.change(0, true, 11L);
        Check.due("another digest", x.run(a), 1);
        Check.due("reused", x.counted(a, 0), 1);
    }

    private static void missingRead() {
        DynamicNeeds x = withFiles(1, 10L);
        int a = reader(x, ALL, READ, 0);
        x.change(0, false, 10L);
        Check.due("run", x.run(a), -3);
        keeps(x, a, 0, 0, 1);
        x.change(0, true, 0L);
        Check.due("there with digest 0", x.run(a), 1);
        keeps(x, a, 0, 1, 1);
    }

    private static void missingEnds() {
        DynamicNeeds x = withFiles(1, 10L, 20L, 0L);
        maker(x, 2, NONE, 0);
        x.change(0, false, 0L);
        int a = reader(x, 0b101, READ, 0, PROBE, 2, READ, 1);
        Check.due("neither waiting nor refused", x.run(a), -3);
        keeps(x, a, 0, 0, 1);
        Check.due("waits for none", x.waits(a), NONE);
    }

    /** The file 1 is made and not there, while its action (0) is FRESH. */
    private static DynamicNeeds withMissingTree() {
        DynamicNeeds x = withTree(4L);
        x.change(0, false, 0L);
        Check.due("run", x.run(0), -3);
        Check.due("fresh", x.fresh(0), true);
        return x;
    }

    private static void missingMadeFile() {
        DynamicNeeds x = withMissingTree();
        int a = reader(x, ALL, READ, 1);
        Check.due("run", x.run(a), -3);
        keeps(x, a, 1, 0, 1);
        Check.due("fresh", x.fresh(a), true);
    }

    private static void missingProbe() {
        DynamicNeeds x = withFiles(1, 10L, 20L);
        int a = reader(x, ALL, PROBE, 0, READ, 1);
        x.change(0, false, 0L);
        Check.due("run", x.run(a), 1);
        keeps(x, a, 0, 0, 0, 1, 1, 1);
    }

    private static void probeSums() {
        DynamicNeeds x = withFiles(1, 10L, 20L, 0L);
        int a = maker(x, 2, PROBE, 0);
        rows(x, a, PROBE, 1);
        Check.due("run", x.run(a), 1);
        Check.due("both there", x.digest(2), 31L * (SUM_OFFSET + 1L) + 1L);
        x.change(1, false, 20L);
        Check.due("run", x.run(a), 1);
        Check.due("one there", x.digest(2), 31L * (SUM_OFFSET + 1L) + 2L);
        x.change(0, false, 10L);
        Check.due("run", x.run(a), 1);
        Check.due("none there", x.digest(2), 31L * (SUM_OFFSET + 2L) + 2L);
    }

    private static void sumsModulo() {
        for (long digest : EXTREMES) {
            DynamicNeeds x = withFiles(1, digest, 0L);
            int a = maker(x, 1, NONE, 0);
            BigInteger sum = BigInteger.valueOf(7);
            for (int i = 0; i < 12; i++) {
                rows(x, a, READ, 0);
                sum = sum.multiply(BigInteger.valueOf(31)).add(BigInteger.valueOf(digest));
                Check.due("run", x.run(a), 1);
                Check.due(i + 1 + " READS of " + digest, x.digest(1), sum.longValue());
            }
        }
    }

    // What is KEPT

    private static void doneKeeps() {
        DynamicNeeds x = withFiles(1, 10L, 20L);
        int a = reader(x, ALL, READ, 0, PROBE, 1);
        Check.due("nothing before", x.kept(a, 0, 0), NONE);
        Check.due("run", x.run(a), 1);
        keeps(x, a, 0, 1, 1, 1, 1, 0);
        x.change(0, false, 0L);
        x.change(1, false, 0L);
        keeps(x, a, 0, 1, 1, 1, 1, 0);
    }

    private static void missingKeeps() {
        DynamicNeeds x = withFiles(1, 10L, 20L, 30L);
        int a = reader(x, ALL, PROBE, 0, READ, 1, READ, 2);
        x.change(1, false, 0L);
        Check.due("run", x.run(a), -3);
        keeps(x, a, 0, 1, 0, 1, 0, 1);
        Check.due("fresh", x.fresh(a), true);
    }

    private static void sumOf0() {
        DynamicNeeds x = withTree(0L);
        int probes = maker(x, 2, PROBE, 1);
        int reads = reader(x, ALL, READ, 1);
        Check.due("it is there", x.run(reads), 1);
        keeps(x, reads, 1, 1, 1);
        Check.due("it is there", x.run(probes), 1);
        Check.due("it is there", x.digest(2), SUM_OFFSET + 1L);
    }

    private static void missingTakesAway() {
        DynamicNeeds x = withMissingTree();
        Check.due("digest", x.digest(1), 0L);
        int a = maker(x, 2, PROBE, 1);
        Check.due("run", x.run(a), 1);
        Check.due("it isn't there", x.digest(2), SUM_OFFSET + 2L);
        keeps(x, a, 1, 0, 0);
    }

    private static void refusedForgets() {
        DynamicNeeds x = withFiles(1, 1L, 2L);
        int a = reader(x, 1, READ, 0, SKIP, 1, READ, 1);
        Check.due("odd", x.run(a), 1);
        x.change(0, true, 2L);
        Check.due("even", x.run(a), -1);
        Check.due("kept", x.kept(a, 0, 0), NONE);
        x.change(0, true, 1L);
        Check.due("as it was, but not kept", x.fresh(a), false);
        Check.due("all allowed ones", x.unused(a), 1);
    }

    private static void waitsForgets() {
        DynamicNeeds x = withTree(4L);
        int a = reader(x, ALL, READ, 2, READ, 1);
        Check.due("run", x.run(a), 1);
        x.change(0, true, 1L);
        Check.due("run", x.run(a), 0);
        Check.due("kept", x.kept(a, 0, 0), NONE);
        x.change(0, true, 4L - SUM_OFFSET);
        Check.due("what it waits for is fresh again", x.fresh(0), true);
        Check.due("as it was, but not kept", x.fresh(a), false);
        Check.due("a try", x.run(a), 1);
        Check.due("none reused", x.counted(a, 0), 0);
    }

    private static void refusedLeavesItsFile() {
        DynamicNeeds x = withFiles(1, 1L, 2L, 0L);
        int a = reader(x, 1, READ, 0, SKIP, 1, READ, 1);
        Check.due("makes", x.makes(a, 2), true);
        Check.due("odd", x.run(a), 1);
        x.change(0, true, 2L);
        Check.due("even", x.run(a), -1);
        Check.due("there as it was", x.digest(2), SUM_OFFSET + 1L);
        x.change(0, false, 2L);
        Check.due("MISSING", x.run(a), -3);
        x.change(0, true, 2L);
        Check.due("even", x.run(a), -1);
        Check.due("not there, as it was", x.digest(2), 0L);
    }

    private static void waitsLeavesItsFile() {
        DynamicNeeds x = withTree(4L);
        int a = maker(x, 2, READ, 1);
        Check.due("run", x.run(a), 1);
        x.change(0, true, 1L);
        for (int outcome : new int[] {0, 0, -2, 0}) {
            Check.due("run", x.run(a), outcome);
            Check.due("there as it was", x.digest(2), SUM_OFFSET + 4L);
        }
        x.change(0, false, 1L);
        Check.due("MISSING", x.run(0), -3);
        Check.due("MISSING", x.run(a), -3);
        x.change(0, true, 1L);
        for (int outcome : new int[] {0, 0, -2, 0}) {
            Check.due("run", x.run(a), outcome);
            Check.due("not there, as it was", x.digest(2), 0L);
        }
    }

    // FRESH

    private static void nothingKept() {
        DynamicNeeds x = withFiles(1, 10L);
        int a = x.action(ALL);
        Check.due("never run, no rows", x.fresh(a), false);
        int b = reader(x, 0, READ, 0);
        Check.due("run", x.run(b), -1);
        Check.due("refused", x.fresh(b), false);
    }

    private static void freshWithoutNotes() {
        DynamicNeeds x = withFiles(1, 10L);
        int a = x.action(ALL);
        Check.due("run", x.run(a), 1);
        Check.due("fresh", x.fresh(a), true);
        x.change(0, true, 11L);
        Check.due("fresh", x.fresh(a), true);
        Check.due("run", x.run(a), 1);
        Check.due("reused", x.counted(a, 0), 1);
    }

    private static void freshAsItWas() {
        DynamicNeeds x = withFiles(1, 0L, 0L);
        int reads = reader(x, ALL, READ, 0);
        int probes = reader(x, ALL, PROBE, 1);
        Check.due("run", x.run(reads), 1);
        Check.due("run", x.run(probes), 1);
        x.change(0, false, 0L);
        x.change(1, false, 0L);
        Check.due("it was there", x.fresh(reads), false);
        Check.due("it was there", x.fresh(probes), false);
        Check.due("run", x.run(reads), -3);
        Check.due("run", x.run(probes), 1);
        Check.due("it isn't there, as it was", x.fresh(reads), true);
        Check.due("it isn't there, as it was", x.fresh(probes), true);
        x.change(0, true, 0L);
        x.change(1, true, 0L);
        Check.due("it wasn't there", x.fresh(reads), false);
        Check.due("it wasn't there", x.fresh(probes), false);
    }

    private static void freshSameDigest() {
        for (long digest : EXTREMES) {
            DynamicNeeds x = withFiles(1, digest);
            int a = reader(x, ALL, READ, 0);
            Check.due("run", x.run(a), 1);
            for (int bit = 0; bit < 64; bit++) {
                x.change(0, true, digest ^ (1L << bit));
                Check.due("another in bit " + bit, x.fresh(a), false);
            }
            x.change(0, false, digest);
            x.change(0, true, digest);
            Check.due("the same again", x.fresh(a), true);
        }
    }

    private static void freshProbed() {
        DynamicNeeds x = withFiles(1, 10L);
        int a = reader(x, ALL, PROBE, 0);
        Check.due("run", x.run(a), 1);
        for (long digest : EXTREMES) {
            x.change(0, true, digest);
            Check.due("another digest", x.fresh(a), true);
        }
        x.change(0, false, 1L);
        Check.due("run", x.run(a), 1);
        x.change(0, false, 2L);
        Check.due("away with another digest", x.fresh(a), true);
    }

    private static void freshEachFile() {
        DynamicNeeds x = with24Files();
        int a = x.action(ALL);
        for (int i = 0; i < 12; i++) {
            rows(x, a, READ, 2 * i + 1);
        }
        Check.due("run", x.run(a), 1);
        for (int i = 0; i < 24; i++) {
            x.change(i, true, 1L);
            Check.due("another file " + i, x.fresh(a), i % 2 == 0);
            x.change(i, true, 100L + 2L * i);
            Check.due("the same again", x.fresh(a), true);
        }
    }

    private static void freshMakers() {
        DynamicNeeds x = withTree(4L);
        int reads = reader(x, ALL, READ, 1);
        int probes = reader(x, ALL, PROBE, 1);
        Check.due("run", x.run(reads), 1);
        Check.due("run", x.run(probes), 1);
        x.change(0, true, 1L);
        Check.due("the file is as it was", x.digest(1), 4L);
        Check.due("its maker isn't fresh", x.fresh(reads), false);
        Check.due("its maker isn't fresh", x.fresh(probes), false);
        Check.due("run", x.run(0), 1);
        Check.due("another digest", x.fresh(reads), false);
        Check.due("another digest", x.fresh(probes), true);
    }

    private static void freshMadeLater() {
        DynamicNeeds x = withFiles(1, 10L, 20L);
        int a = reader(x, ALL, PROBE, 1);
        x.change(1, false, 0L);
        Check.due("run", x.run(a), 1);
        int b = maker(x, 1, READ, 0);
        Check.due("as it was, but now its maker isn't fresh", x.fresh(a), false);
        x.change(0, false, 0L);
        Check.due("run", x.run(b), -3);
        Check.due("its maker is fresh", x.fresh(a), true);
    }

    private static void leastOfARing() {
        DynamicNeeds x = withFiles(9, 10L, 20L);
        int a = maker(x, 0, PROBE, 1);
        Check.due("it probes one that none makes", x.run(a), 1);
        int b = x.action(ALL);
        rows(x, b, READ, 0);
        Check.due("it reads what that makes", x.run(b), 1);
        Check.due("now it makes what that probes", x.makes(b, 1), true);
        Check.due("neither is", x.fresh(a), false);
        Check.due("neither is", x.fresh(b), false);
        Check.due("each waits for the other", x.run(a), 0);
        Check.due("each waits for the other", x.run(b), 0);
        Check.due("waits", x.waits(a), 1);
        Check.due("waits", x.waits(b), 0);
        Check.due("a ring", x.resolve(a), -5);
        Check.due("neither is", x.fresh(a), false);
        Check.due("neither is", x.fresh(b), false);
    }

    /** Each of 12 actions reads what another makes; the order of the numbers must not matter. */
    private static DynamicNeeds line(int tries, boolean upwards) {
        DynamicNeeds x = new DynamicNeeds(tries);
        for (int i = 0; i < 13; i++) {
            x.file(2L);
        }
        for (int i = 0; i < 12; i++) {
            int from = upwards ? i : i + 1;
            maker(x, upwards ? i + 1 : i, READ, from);
        }
        return x;
    }

    private static void freshLine() {
        for (int upwards = 0; upwards <= 1; upwards++) {
            DynamicNeeds x = line(2, upwards == 1);
            int source = upwards == 1 ? 0 : 12;
            int last = upwards == 1 ? 11 : 0;
            Check.due("resolve", x.resolve(last), 1);
            for (int i = 0; i < 12; i++) {
                Check.due("fresh", x.fresh(i), true);
            }
            x.change(source, true, 3L);
            for (int i = 0; i < 12; i++) {
                Check.due("not fresh", x.fresh(i), false);
            }
            x.change(source, true, 2L);
            Check.due("as it was", x.fresh(last), true);
        }
    }

    private static void freshNotThere() {
        DynamicNeeds x = withMissingTree();
        int a = reader(x, ALL, PROBE, 1);
        Check.due("it isn't waited for", x.run(a), 1);
        keeps(x, a, 1, 0, 0);
        x.change(0, true, 1L);
        Check.due("now it is", x.run(a), 0);
    }

    // RUNNING

    private static void reusedDone() {
        DynamicNeeds x = withTree(4L);
        for (int i = 1; i <= 20; i++) {
            Check.due("run", x.run(0), 1);
            Check.due("reused", x.counted(0, 0), i);
            Check.due("no try", x.counted(0, 1), 1);
        }
        Check.due("digest", x.digest(1), 4L);
    }

    private static void reusedMissing() {
        DynamicNeeds x = withMissingTree();
        for (int i = 1; i <= 20; i++) {
            Check.due("run", x.run(0), -3);
            Check.due("reused", x.counted(0, 0), i);
            Check.due("no try", x.counted(0, 1), 2);
        }
        Check.due("digest", x.digest(1), 0L);
    }

    /** So many tries are left: they all WAIT, and then it is STOPPED. */
    private static void waitsOften(DynamicNeeds x, int action, int times) {
        for (int i = 0; i < times; i++) {
            Check.due("try " + (i + 1) + " of " + times, x.run(action), 0);
        }
        Check.due("behind " + times + " tries", x.run(action), -2);
    }

    private static void stoppedBehindTries() {
        for (int tries = 1; tries <= 9; tries++) {
            DynamicNeeds x = withFiles(tries, 1L);
            waitsOften(x, maker(x, 0, READ, 0), tries);
        }
    }

    private static void triesSinceDone() {
        DynamicNeeds x = withTree(4L);
        int a = reader(x, ALL, READ, 1);
        x.change(0, true, 1L);
        Check.due("one of two tries", x.run(a), 0);
        Check.due("run", x.run(0), 1);
        Check.due("DONE", x.run(a), 1);
        x.change(0, true, 2L);
        waitsOften(x, a, 2);
    }

    private static void triesSinceMissing() {
        DynamicNeeds x = withTree(4L);
        int a = reader(x, ALL, READ, 1, READ, 2);
        x.change(0, true, 1L);
        x.change(2, false, 1L);
        Check.due("one of two tries", x.run(a), 0);
        Check.due("run", x.run(0), 1);
        Check.due("MISSING", x.run(a), -3);
        x.change(0, true, 2L);
        waitsOften(x, a, 2);
    }

    private static void triesSinceRefused() {
        DynamicNeeds x = withTree(4L);
        int a = reader(x, 0b010, READ, 1, READ, 2);
        x.change(0, true, 1L);
        Check.due("one of two tries", x.run(a), 0);
        Check.due("run", x.run(0), 1);
        Check.due("REFUSED", x.run(a), -1);
        x.change(0, true, 2L);
        waitsOften(x, a, 2);
    }

    private static void triesSinceStopped() {
        DynamicNeeds x = withFiles(3, 1L);
        int a = maker(x, 0, READ, 0);
        waitsOften(x, a, 3);
        Check.due("tries", x.counted(a, 2), 0);
        waitsOften(x, a, 3);
        waitsOften(x, a, 3);
        Check.due("tries in all", x.counted(a, 1), 9);
    }

    private static void reusedIsNoTry() {
        DynamicNeeds x = withFiles(1, 1L);
        int a = reader(x, ALL, READ, 0);
        for (int i = 0; i < 12; i++) {
            Check.due("run", x.run(a), 1);
            Check.due("tries", x.counted(a, 2), 0);
        }
        for (int i = 0; i < 12; i++) {
            x.change(0, true, i + 2L);
            Check.due("a try each", x.run(a), 1);
            Check.due("tries", x.counted(a, 2), 0);
        }
    }

    private static void stoppedIsNoTry() {
        DynamicNeeds x = withFiles(1, 1L, 0L);
        maker(x, 1, NONE, 0);
        int a = maker(x, 0, READ, 1);
        Check.due("run", x.run(a), 0);
        Check.due("run", x.run(0), 1);
        Check.due("what it waits for is fresh, but no try is left", x.run(a), -2);
        Check.due("tries in all", x.counted(a, 1), 1);
        Check.due("nothing was made", x.digest(0), 0L);
        Check.due("waits for none", x.waits(a), NONE);
        Check.due("anew", x.run(a), 1);
    }

    private static void stoppedKeepsNothing() {
        DynamicNeeds x = withTree(4L);
        int a = reader(x, ALL, READ, 2, READ, 1);
        Check.due("run", x.run(a), 1);
        x.change(0, true, 1L);
        waitsOften(x, a, 2);
        Check.due("kept", x.kept(a, 0, 0), NONE);
        x.change(0, true, 4L - SUM_OFFSET);
        Check.due("fresh", x.fresh(a), false);
        Check.due("all allowed ones", x.unused(a), 0b111);
    }

    // RESOLVING

    private static void resolveWithoutWait() {
        DynamicNeeds x = withFiles(1, 1L);
        int a = reader(x, ALL, READ, 0);
        Check.due("resolve", x.resolve(a), 1);
        Check.due("one try", x.counted(a, 1), 1);
        Check.due("resolve", x.resolve(a), 1);
        Check.due("reused", x.counted(a, 0), 1);
        Check.due("no rows", x.resolve(x.action(0)), 1);
    }

    /** The action 9 reads what the actions 0 .. 8 make. */
    private static DynamicNeeds withNineNeeds(int tries, int needs) {
        DynamicNeeds x = new DynamicNeeds(tries);
        for (int i = 0; i < 9; i++) {
            x.file(1L);
            maker(x, i, NONE, 0);
        }
        int a = x.action(ALL);
        for (int i = 0; i < needs; i++) {
            rows(x, a, READ, i);
        }
        return x;
    }

    private static void resolveSeveralWaits() {
        DynamicNeeds x = withNineNeeds(9, 8);
        Check.due("eight waits and the ninth try", x.resolve(9), 1);
        Check.due("tries", x.counted(9, 1), 9);
        Check.due("since", x.counted(9, 2), 0);
        Check.due("each need was tried once", x.counted(7, 1), 1);
        Check.due("the ninth wasn't needed", x.counted(8, 1), 0);
    }

    private static void resolveStopsItself() {
        DynamicNeeds x = withNineNeeds(9, 9);
        Check.due("nine waits, and no try is left", x.resolve(9), -2);
        Check.due("tries", x.counted(9, 1), 9);
        Check.due("since", x.counted(9, 2), 0);
        Check.due("the last need was made", x.digest(8), 7L);
        Check.due("again", x.resolve(9), 1);
        Check.due("tries", x.counted(9, 1), 10);
        DynamicNeeds one = withNineNeeds(1, 1);
        Check.due("one try isn't enough", one.resolve(9), -2);
        Check.due("again", one.resolve(9), 1);
    }

    private static void resolveDeep() {
        for (int upwards = 0; upwards <= 1; upwards++) {
            DynamicNeeds x = line(2, upwards == 1);
            int last = upwards == 1 ? 11 : 0;
            Check.due("resolve", x.resolve(last), 1);
            Check.due("digest", x.digest(upwards == 1 ? 12 : 0), 12L * SUM_OFFSET + 2L);
            for (int i = 0; i < 12; i++) {
                Check.due("tries", x.counted(i, 1), i == 11 - last ? 1 : 2);
                Check.due("fresh", x.fresh(i), true);
            }
        }
    }

    private static void resolveDiamond() {
        DynamicNeeds x = withFiles(3, 1L, 0L, 0L, 0L);
        maker(x, 1, READ, 0);
        maker(x, 2, READ, 1);
        maker(x, 3, READ, 1);
        int a = reader(x, ALL, READ, 2, READ, 3);
        Check.due("resolve", x.resolve(a), 1);
        Check.due("tries of the one", x.counted(0, 1), 1);
        Check.due("it isn't run for the second", x.counted(0, 0), 0);
        Check.due("tries of the first", x.counted(1, 1), 2);
        Check.due("tries of the second", x.counted(2, 1), 1);
        Check.due("tries of the last", x.counted(a, 1), 3);
    }

    private static void ringOfOne() {
        DynamicNeeds x = withFiles(2, 1L);
        int a = maker(x, 0, READ, 0);
        Check.due("resolve", x.resolve(a), -5);
        Check.due("ring(0)", x.ring(0), a);
        Check.due("ring(1)", x.ring(1), NONE);
        Check.due("one try", x.counted(a, 1), 1);
    }

    private static void ringOfTwelve() {
        for (int first = 0; first < 12; first++) {
            DynamicNeeds x = new DynamicNeeds(1);
            for (int i = 0; i < 12; i++) {
                x.file(0L);
            }
            for (int i = 0; i < 12; i++) {
                maker(x, i, PROBE, (i + 5) % 12);
            }
            Check.due("resolve", x.resolve(first), -5);
            for (int i = 0; i < 12; i++) {
                Check.due("ring(" + i + ")", x.ring(i), (first + 5 * i) % 12);
                Check.due("one try", x.counted(i, 1), 1);
            }
            Check.due("ring(12)", x.ring(12), NONE);
        }
    }

    /** The actions 0 and 1 are a way to the ring of 2 and 3. */
    private static DynamicNeeds withWayToRing(int tries) {
        DynamicNeeds x = withFiles(tries, 1L, 1L, 1L, 1L);
        for (int i = 0; i < 4; i++) {
            maker(x, i, READ, i == 3 ? 2 : i + 1);
        }
        return x;
    }

    private static void ringBehindAWay() {
        DynamicNeeds x = withWayToRing(2);
        Check.due("resolve", x.resolve(0), -5);
        Check.due("ring(0)", x.ring(0), 2);
        Check.due("ring(1)", x.ring(1), 3);
        Check.due("ring(2)", x.ring(2), NONE);
        Check.due("resolve", x.resolve(3), -5);
        Check.due("ring(0)", x.ring(0), 3);
        Check.due("ring(1)", x.ring(1), 2);
        Check.due("ring(2)", x.ring(2), NONE);
    }

    private static void ringEndsAll() {
        DynamicNeeds x = withWayToRing(2);
        Check.due("resolve", x.resolve(0), -5);
        for (int i = 0; i < 4; i++) {
            Check.due("none is run again", x.counted(i, 1), 1);
            Check.due("all still wait", x.waits(i), i == 3 ? 2 : i + 1);
            Check.due("nothing is made", x.digest(i), 0L);
        }
    }

    private static void ringUntilStopped() {
        DynamicNeeds x = withWayToRing(2);
        Check.due("the first tries", x.resolve(2), -5);
        Check.due("the second tries", x.resolve(2), -5);
        Check.due("no try is left", x.resolve(2), -2);
        Check.due("ring", x.ring(0), NONE);
        Check.due("no try of the other is left", x.resolve(2), -2);
        Check.due("ring", x.ring(0), NONE);
        Check.due("both begin anew", x.resolve(2), -5);
        Check.due("ring", x.ring(0), 2);
    }

    /** The action 2 reads what 1 makes, that reads what 0 makes; 0 may look at nothing. */
    private static DynamicNeeds withRefused(int tries) {
        DynamicNeeds x = withFiles(tries, 1L, 0L, 0L, 0L);
        int refused = reader(x, 0, READ, 0);
        Check.due("makes", x.makes(refused, 1), true);
        maker(x, 2, READ, 1);
        maker(x, 3, READ, 2);
        return x;
    }

    private static void refusedOnTheWay() {
        DynamicNeeds x = withRefused(3);
        Check.due("resolve", x.resolve(2), -1);
        for (int i = 0; i < 3; i++) {
            Check.due("none is run again", x.counted(i, 1), 1);
        }
        Check.due("it still waits", x.waits(2), 2);
        Check.due("it still waits", x.waits(1), 1);
        Check.due("the first one itself", x.resolve(0), -1);
    }

    private static void stoppedOnTheWay() {
        DynamicNeeds x = withRefused(2);
        Check.due("run", x.run(1), 0);
        Check.due("run", x.run(1), 0);
        Check.due("resolve", x.resolve(2), -2);
        Check.due("none is run again", x.counted(2, 1), 1);
        Check.due("it still waits", x.waits(2), 2);
        Check.due("behind it none is run", x.counted(0, 1), 0);
        Check.due("its tries begin anew", x.counted(1, 2), 0);
    }

    private static void missingOnTheWay() {
        DynamicNeeds x = withFiles(2, 1L, 0L, 0L, 0L);
        maker(x, 1, READ, 0);
        int reads = maker(x, 2, READ, 1);
        int probes = maker(x, 3, PROBE, 2);
        x.change(0, false, 0L);
        Check.due("resolve", x.resolve(probes), 1);
        Check.due("digest", x.digest(3), SUM_OFFSET + 2L);
        Check.due("it was MISSING, too", x.run(reads), -3);
        Check.due("a second try", x.counted(reads, 1), 2);
    }

    // TREES and MAPPINGS

    private static void membersOfPositive() {
        for (long digest = 0; digest < 12; digest++) {
            Check.due("members of " + digest, withTree(digest).members(1), digest % 5);
        }
        Check.due("members of the greatest", withTree(Long.MAX_VALUE).members(1), 2);
        Check.due("members", withTree(1L << 32).members(1), 1);
    }

    private static void membersOfNegative() {
        for (long digest : EXTREMES) {
            long due = BigInteger.valueOf(digest).mod(BigInteger.valueOf(5)).longValue();
            Check.due("members of " + digest, withTree(digest).members(1), due);
        }
        for (long digest = -1; digest > -12; digest--) {
            Check.due("members of " + digest, withTree(digest).members(1), (digest + 15) % 5);
        }
    }

    private static void checkResults(DynamicNeeds x, int mapping, long digest, int size, long salt) {
        for (int i = 0; i < size; i++) {
            BigInteger member = BigInteger.valueOf(digest).xor(BigInteger.valueOf(i * STEP));
            BigInteger due = member.multiply(BigInteger.valueOf(17)).add(BigInteger.valueOf(salt));
            Check.due("result(" + mapping + ", " + i + ")", x.result(mapping, i), due.longValue());
        }
        Check.due("no more", x.result(mapping, size), 0L);
    }

    private static void memberDigests() {
        for (long digest : new long[] {4L, 9L, 1000004L, 3000009L, -1L}) {
            DynamicNeeds x = withTree(digest);
            Check.due("mapping", x.mapping(1, 0L), 0);
            Check.due("map", x.map(0), 4);
            checkResults(x, 0, digest, 4, 0L);
        }
    }

    private static void resultsModulo() {
        for (long digest : EXTREMES) {
            for (long salt : EXTREMES) {
                DynamicNeeds x = withTree(digest);
                Check.due("mapping", x.mapping(1, salt), 0);
                Check.due("map", x.map(0), x.members(1));
                checkResults(x, 0, digest, x.members(1), salt);
            }
        }
    }

    private static void firstMap() {
        for (long digest = -5; digest <= 5; digest++) {
            DynamicNeeds x = withTree(digest);
            Check.due("mapping", x.mapping(1, 0L), 0);
            Check.due("map", x.map(0), (digest + 5) % 5);
        }
    }

    private static void sameMembers() {
        DynamicNeeds x = withTree(4L);
        Check.due("mapping", x.mapping(1, 5L), 0);
        Check.due("map", x.map(0), 4);
        Check.due("again", x.map(0), 0);
        checkResults(x, 0, 4L, 4, 5L);
        Check.due("and again", x.map(0), 0);
    }

    /** The least digest of a tree of one size that the step turns into a tree of the other size. */
    private static long swapped(int size, int other) {
        long digest = 0L;
        while (Math.floorMod(digest, 5L) != size || Math.floorMod(digest ^ STEP, 5L) != other) {
            digest++;
        }
        return digest;
    }

    private static void movedMembers() {
        // Xor with the step swaps the members 0 and 1.
        long digest = swapped(2, 3);
        DynamicNeeds x = withTree(digest);
        Check.due("mapping", x.mapping(1, 5L), 0);
        Check.due("map", x.map(0), 2);
        reshape(x, digest ^ STEP);
        Check.due("two of three moved", x.map(0), 1);
        checkResults(x, 0, digest ^ STEP, 3, 5L);
        reshape(x, digest);
        Check.due("both moved back", x.map(0), 0);
        checkResults(x, 0, digest, 2, 5L);
    }

    private static void onlyTheMapBefore() {
        DynamicNeeds x = withTree(4L);
        Check.due("mapping", x.mapping(1, 5L), 0);
        Check.due("map", x.map(0), 4);
        reshape(x, 14L);
        Check.due("others", x.map(0), 4);
        reshape(x, 4L);
        Check.due("those before that are anew", x.map(0), 4);
    }

    private static void mapOfNoMembers() {
        DynamicNeeds x = withTree(4L);
        Check.due("mapping", x.mapping(1, 5L), 0);
        Check.due("map", x.map(0), 4);
        reshape(x, 5L);
        Check.due("no members", x.map(0), 0);
        checkResults(x, 0, 5L, 0, 5L);
        reshape(x, 4L);
        Check.due("all anew", x.map(0), 4);
    }

    private static void mapOfFewer() {
        // The smaller tree's one member is the second one of the greater tree.
        long digest = swapped(4, 1);
        DynamicNeeds x = withTree(digest);
        Check.due("mapping", x.mapping(1, 5L), 0);
        Check.due("map", x.map(0), 4);
        reshape(x, digest ^ STEP);
        Check.due("one that was there", x.map(0), 0);
        checkResults(x, 0, digest ^ STEP, 1, 5L);
        reshape(x, digest);
        Check.due("three that weren't", x.map(0), 3);
        checkResults(x, 0, digest, 4, 5L);
    }

    private static void otherMapping() {
        DynamicNeeds x = withTree(4L);
        Check.due("mapping", x.mapping(1, 5L), 0);
        Check.due("mapping", x.mapping(1, 5L), 1);
        Check.due("map", x.map(0), 4);
        Check.due("map of the other", x.map(1), 4);
        Check.due("map again", x.map(0), 0);
    }
}
