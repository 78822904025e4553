/** For each sentence of the promises 1 to 19 that names a boundary case, a test of its own. */
public final class BoundariesTest extends Scene {
    private static final int[] OTHER_KINDS = {-1, 3, 4, 32, 256, -256, Integer.MIN_VALUE, Integer.MAX_VALUE};
    private static final int[] OTHER_WHATS = {-1, 3, 4, 32, 256, -256, Integer.MIN_VALUE, Integer.MAX_VALUE};

    public static void main(String[] args) {
        promises1To4();
        promises5And6();
        promises7To9();
        promises10To13();
        promises14To16();
        promises17To19();
        Check.end();
    }

    private static void promises1To4() {
        Check.sentence("1: No files", BoundariesTest::noFilesAtFirst);
        Check.sentence("1: no actions", BoundariesTest::noActionsAtFirst);
        Check.sentence("1: a new object has nothing of another", BoundariesTest::nothingOfAnother);
        Check.sentence("1: so many TRIES each", BoundariesTest::triesEach);
        Check.sentence("1: TRIES below 1: 1", () -> triesOf(1, 0, -1, -2, -9, Integer.MIN_VALUE));
        Check.sentence("1: TRIES above 9: 9", () -> triesOf(9, 10, 11, 265, Integer.MAX_VALUE));
        Check.sentence("1: TRIES of 1 .. 9", BoundariesTest::triesBetween);
        Check.sentence("2: its number", BoundariesTest::fileNumbers);
        Check.sentence("2: a new FILE that is there", BoundariesTest::newFileIsThere);
        Check.sentence("2: NONE if there are 24", BoundariesTest::fileIfFull);
        Check.sentence("3: is there with a DIGEST", BoundariesTest::changePuts);
        Check.sentence("3: or isn't there", BoundariesTest::changeRemoves);
        Check.sentence("3: false if there is none such", BoundariesTest::changeNoneSuch);
        Check.sentence("3: false if one MAKES it", BoundariesTest::changeMade);
        Check.sentence("4: its number", BoundariesTest::actionNumbers);
        Check.sentence("4: ALLOWS FILES by bits", BoundariesTest::allowedBits);
        Check.sentence("4: also such that come later", BoundariesTest::allowedLater);
        Check.sentence("4: NONE if there are 12", BoundariesTest::actionIfFull);
    }

    private static void promises5And6() {
        Check.sentence("5: from now on", BoundariesTest::makesFromNowOn);
        Check.sentence("5: which isn't there then", BoundariesTest::makesTakesAway);
        Check.sentence("5: what the ACTION KEPT goes", BoundariesTest::makesForgets);
        Check.sentence("5: false if there is no such ACTION", BoundariesTest::makesNoAction);
        Check.sentence("5: false if there is no such FILE", BoundariesTest::makesNoFile);
        Check.sentence("5: false if it MAKES one", BoundariesTest::makesTwo);
        Check.sentence("5: false if the FILE is made", BoundariesTest::makesMade);
        Check.sentence("6: what was KEPT goes: READ", () -> rowForgets(READ, 1));
        Check.sentence("6: what was KEPT goes: PROBE", () -> rowForgets(PROBE, 1));
        Check.sentence("6: what was KEPT goes: SKIP", () -> rowForgets(SKIP, 1));
        Check.sentence("6: False if there is no such ACTION", BoundariesTest::rowNoAction);
        Check.sentence("6: False if there is no such kind", BoundariesTest::rowNoKind);
        Check.sentence("6: False if there is no such FILE: READ", () -> rowNoFile(READ));
        Check.sentence("6: False if there is no such FILE: PROBE", () -> rowNoFile(PROBE));
        Check.sentence("6: False if SKIP isn't 1 .. 8", BoundariesTest::rowSkipOutside);
        Check.sentence("6: SKIP of 1 .. 8", BoundariesTest::rowSkipInside);
        Check.sentence("6: SKIP of more than there are FILES", BoundariesTest::rowSkipWithoutFiles);
        Check.sentence("6: False if it has 12: READ", () -> rowIfFull(READ, 0));
        Check.sentence("6: False if it has 12: PROBE", () -> rowIfFull(PROBE, 0));
        Check.sentence("6: False if it has 12: SKIP", () -> rowIfFull(SKIP, 1));
    }

    private static void promises7To9() {
        Check.sentence("7: 1, 0, - 1, - 2, - 3", BoundariesTest::runOutcomes);
        Check.sentence("7: - 9 if there is none such", BoundariesTest::runNoneSuch);
        Check.sentence("8: 1, - 1, - 2, - 3, - 5", BoundariesTest::resolveOutcomes);
        Check.sentence("8: - 9 if there is none such", BoundariesTest::resolveNoneSuch);
        Check.sentence("9: from the one that was being RESOLVED on, in order", BoundariesTest::ringOrder);
        Check.sentence("9: the latest resolve", BoundariesTest::ringOfTheLatest);
        Check.sentence("9: that wasn't - 9", BoundariesTest::ringBehindNoneSuch);
        Check.sentence("9: NONE if there is none such", BoundariesTest::ringNoneSuch);
        Check.sentence("9: NONE before any resolve", BoundariesTest::ringAtFirst);
        Check.sentence("9: NONE if that resolve wasn't - 5: 1", () -> ringBehind(1));
        Check.sentence("9: NONE if that resolve wasn't - 5: - 1", () -> ringBehind(-1));
        Check.sentence("9: NONE if that resolve wasn't - 5: - 2", () -> ringBehind(-2));
        Check.sentence("9: NONE if that resolve wasn't - 5: - 3", () -> ringBehind(-3));
        Check.sentence("9: a run leaves the RING", BoundariesTest::ringBehindRun);
    }

    private static void promises10To13() {
        Check.sentence("10: the latest RUN, also a resolve's", BoundariesTest::waitsOfTheLatest);
        Check.sentence("10: NONE if it didn't: not RUN yet", BoundariesTest::waitsBeforeRun);
        Check.sentence("10: NONE if it didn't: DONE and REUSED", BoundariesTest::waitsDone);
        Check.sentence("10: NONE if it didn't: MISSING", BoundariesTest::waitsMissing);
        Check.sentence("10: NONE if it didn't: REFUSED", BoundariesTest::waitsRefused);
        Check.sentence("10: NONE if it didn't: STOPPED", BoundariesTest::waitsStopped);
        Check.sentence("10: NONE if there is none such", BoundariesTest::waitsNoneSuch);
        Check.sentence("11: false if there is none such", BoundariesTest::freshNoneSuch);
        Check.sentence("11: asking changes nothing", BoundariesTest::freshChangesNothing);
        Check.sentence("12: in the order in which FILES were noted first", BoundariesTest::keptOrder);
        Check.sentence("12: 1 whether it was there (1, 0)", BoundariesTest::keptThere);
        Check.sentence("12: 2 whether it was READ (1, 0)", BoundariesTest::keptRead);
        Check.sentence("12: NONE if there is no such ACTION", BoundariesTest::keptNoAction);
        Check.sentence("12: NONE if there is none such of what it KEPT", BoundariesTest::keptNoPlace);
        Check.sentence("12: NONE if nothing is KEPT", BoundariesTest::keptNothing);
        Check.sentence("12: NONE for another what", BoundariesTest::keptOtherWhat);
        Check.sentence("12: 12 that were KEPT", BoundariesTest::keptMost);
        Check.sentence("13: of those that are", BoundariesTest::unusedOfThoseThatAre);
        Check.sentence("13: that an ACTION KEPT nothing of", BoundariesTest::unusedButKept);
        Check.sentence("13: all ALLOWED ones if nothing is KEPT", BoundariesTest::unusedAll);
        Check.sentence("13: 0 if there is none such", BoundariesTest::unusedNoneSuch);
        Check.sentence("13: 0 if all are KEPT, or none is ALLOWED", BoundariesTest::unusedNone);
    }

    private static void promises14To16() {
        Check.sentence("14: 0 if it isn't there", BoundariesTest::digestNotThere);
        Check.sentence("14: 0 if there is none such", BoundariesTest::digestNoneSuch);
        Check.sentence("15: how often it was REUSED (what 0)", BoundariesTest::countedReused);
        Check.sentence("15: how many TRIES in all (1)", BoundariesTest::countedInAll);
        Check.sentence("15: TRIES as RUNNING counts them (2)", BoundariesTest::countedSince);
        Check.sentence("15: NONE if there is none such", BoundariesTest::countedNoneSuch);
        Check.sentence("15: NONE for another what", BoundariesTest::countedOtherWhat);
        Check.sentence("16: 0 if it isn't made", BoundariesTest::membersNotMade);
        Check.sentence("16: 0 if it isn't there", BoundariesTest::membersNotThere);
        Check.sentence("16: 0 if there is none such", BoundariesTest::membersNoneSuch);
        Check.sentence("16: also if it isn't FRESH", BoundariesTest::membersNotFresh);
    }

    private static void promises17To19() {
        Check.sentence("17: its number", BoundariesTest::mappingNumbers);
        Check.sentence("17: NONE if there is no such FILE", BoundariesTest::mappingNoFile);
        Check.sentence("17: NONE if there are 6", BoundariesTest::mappingIfFull);
        Check.sentence("17: also of a FILE that isn't made, or isn't there", BoundariesTest::mappingOfAnyFile);
        Check.sentence("18: NONE if there is none such", BoundariesTest::mapNoneSuch);
        Check.sentence("18: NONE if the FILE isn't made", BoundariesTest::mapNotMade);
        Check.sentence("18: NONE if it isn't FRESH", BoundariesTest::mapNotFresh);
        Check.sentence("18: NONE if it isn't there", BoundariesTest::mapNotThere);
        Check.sentence("18: nothing changes then", BoundariesTest::mapOfNoneChangesNothing);
        Check.sentence("18: no MEMBERS: 0, not NONE", BoundariesTest::mapNoMembers);
        Check.sentence("19: of the latest map", BoundariesTest::resultOfTheLatest);
        Check.sentence("19: that wasn't NONE", BoundariesTest::resultBehindNone);
        Check.sentence("19: 0 if there is no such MAPPING", BoundariesTest::resultNoMapping);
        Check.sentence("19: 0 if there is no such RESULT", BoundariesTest::resultNoPlace);
        Check.sentence("19: 0 before any map", BoundariesTest::resultBeforeMap);
    }

    /**
     * Four files, three actions, two mappings, a bit of everything: the action 0 makes the file 1 out of
     * 0, the action 1 (2 out of 1) waits, 2 is in a ring with itself (3).
     */
    private static DynamicNeeds aBitOfAll() {
        DynamicNeeds x = withFiles(3, 4L - SUM_OFFSET, 0L, 0L, 0L);
        maker(x, 1, READ, 0);
        maker(x, 2, READ, 1);
        maker(x, 3, PROBE, 3);
        Check.due("mapping", x.mapping(1, 5L), 0);
        Check.due("mapping", x.mapping(2, 6L), 1);
        Check.due("run", x.run(1), 0);
        Check.due("run", x.run(0), 1);
        Check.due("run", x.run(0), 1);
        Check.due("map", x.map(0), 4);
        Check.due("resolve", x.resolve(2), -5);
        return x;
    }

    private static String lookAt(DynamicNeeds x) {
        return look(x, 4, 3, 2);
    }

    // Promise 1

    private static void noFilesAtFirst() {
        DynamicNeeds x = new DynamicNeeds(3);
        Check.due("action", x.action(ALL), 0);
        Check.due("change", x.change(0, true, 1L), false);
        Check.due("makes", x.makes(0, 0), false);
        Check.due("READ", x.row(0, READ, 0), false);
        Check.due("PROBE", x.row(0, PROBE, 0), false);
        Check.due("unused", x.unused(0), 0);
        Check.due("digest", x.digest(0), 0L);
        Check.due("members", x.members(0), 0);
        Check.due("mapping", x.mapping(0, 1L), NONE);
        Check.due("map", x.map(0), NONE);
        Check.due("result", x.result(0, 0), 0L);
        Check.due("the first file", x.file(1L), 0);
    }

    private static void noActionsAtFirst() {
        DynamicNeeds x = new DynamicNeeds(3);
        Check.due("file", x.file(3L), 0);
        Check.due("makes", x.makes(0, 0), false);
        Check.due("READ", x.row(0, READ, 0), false);
        Check.due("run", x.run(0), -9);
        Check.due("resolve", x.resolve(0), -9);
        Check.due("ring", x.ring(0), NONE);
        Check.due("waits", x.waits(0), NONE);
        Check.due("fresh", x.fresh(0), false);
        Check.due("kept", x.kept(0, 0, 0), NONE);
        Check.due("unused", x.unused(0), 0);
        Check.due("counted", x.counted(0, 0), NONE);
        Check.due("digest", x.digest(0), 3L);
        Check.due("the first action", x.action(ALL), 0);
    }

    private static void nothingOfAnother() {
        String before = lookAt(new DynamicNeeds(3));
        DynamicNeeds other = aBitOfAll();
        DynamicNeeds x = new DynamicNeeds(3);
        Check.same("nothing is there", lookAt(x), before);
        String others = lookAt(other);
        Check.due("the first file", x.file(77L), 0);
        Check.due("the first action", x.action(0), 0);
        Check.due("the first mapping", x.mapping(0, 9L), 0);
        Check.same("the other stays", lookAt(other), others);
    }

    private static void triesOf(int due, int... asked) {
        for (int tries : asked) {
            DynamicNeeds x = withFiles(tries, 1L);
            int a = maker(x, 0, READ, 0);
            for (int i = 1; i <= due; i++) {
                Check.due("try " + i + " of " + tries, x.run(a), 0);
            }
            Check.due("behind the tries of " + tries, x.run(a), -2);
        }
    }

    private static void triesBetween() {
        for (int tries = 1; tries <= 9; tries++) {
            triesOf(tries, tries);
        }
    }

    private static void triesEach() {
        DynamicNeeds x = withFiles(2, 1L, 2L);
        int a = maker(x, 0, READ, 0);
        int b = maker(x, 1, READ, 1);
        Check.due("run a", x.run(a), 0);
        Check.due("run a", x.run(a), 0);
        Check.due("b has tries of its own", x.run(b), 0);
        Check.due("b has tries of its own", x.run(b), 0);
        Check.due("run a", x.run(a), -2);
        Check.due("run b", x.run(b), -2);
    }

    // Promise 2

    private static void fileNumbers() {
        DynamicNeeds x = new DynamicNeeds(1);
        for (int i = 0; i < 24; i++) {
            Check.due("file", x.file(5L), i);
        }
    }

    private static void newFileIsThere() {
        DynamicNeeds x = withFiles(1, 0L, -5L);
        int a = reader(x, ALL, READ, 0, READ, 1);
        Check.due("run", x.run(a), 1);
        keeps(x, a, 0, 1, 1, 1, 1, 1);
        Check.due("digest", x.digest(1), -5L);
    }

    private static DynamicNeeds with24Files() {
        DynamicNeeds x = new DynamicNeeds(1);
        for (int i = 0; i < 24; i++) {
            x.file(i + 1L);
        }
        return x;
    }

    private static void fileIfFull() {
        DynamicNeeds x = with24Files();
        for (int i = 0; i < 3; i++) {
            Check.due("a 25th", x.file(99L), NONE);
        }
        for (int i = 0; i < 24; i++) {
            Check.due("digest(" + i + ")", x.digest(i), i + 1L);
        }
        Check.due("digest(24)", x.digest(24), 0L);
        Check.due("change(24)", x.change(24, true, 1L), false);
    }

    // Promise 3

    private static void changePuts() {
        DynamicNeeds x = withFiles(1, 5L);
        Check.due("change", x.change(0, true, 0L), true);
        Check.due("digest", x.digest(0), 0L);
        int a = reader(x, ALL, READ, 0);
        Check.due("there with 0", x.run(a), 1);
        Check.due("the same again", x.change(0, true, 0L), true);
        Check.due("fresh", x.fresh(a), true);
        Check.due("change", x.change(0, true, Long.MIN_VALUE), true);
        Check.due("digest", x.digest(0), Long.MIN_VALUE);
    }

    private static void changeRemoves() {
        DynamicNeeds x = withFiles(1, 5L);
        Check.due("away", x.change(0, false, 7L), true);
        Check.due("its digest doesn't count", x.digest(0), 0L);
        Check.due("away twice", x.change(0, false, 8L), true);
        int a = reader(x, ALL, READ, 0);
        Check.due("run", x.run(a), -3);
        Check.due("back", x.change(0, true, 7L), true);
        Check.due("digest", x.digest(0), 7L);
        Check.due("run", x.run(a), 1);
    }

    private static void changeNoneSuch() {
        DynamicNeeds x = aBitOfAll();
        String before = lookAt(x);
        for (int number : wrongNumbers(4)) {
            Check.due("change(" + number + ", true)", x.change(number, true, 1L), false);
            Check.due("change(" + number + ", false)", x.change(number, false, 1L), false);
        }
        Check.same("nothing changes", lookAt(x), before);
        Check.due("the next file", x.file(8L), 4);
        Check.due("digest", x.digest(4), 8L);
    }

    private static void changeMade() {
        DynamicNeeds x = aBitOfAll();
        String before = lookAt(x);
        Check.due("one that is there", x.change(1, true, 9L), false);
        Check.due("one that is there", x.change(1, false, 9L), false);
        Check.due("one that isn't", x.change(2, true, 9L), false);
        Check.due("one that isn't", x.change(2, false, 9L), false);
        Check.due("one in a ring", x.change(3, true, 9L), false);
        Check.same("nothing changes", lookAt(x), before);
    }

    // Promise 4

    private static void actionNumbers() {
        DynamicNeeds x = new DynamicNeeds(1);
        for (int i = 0; i < 12; i++) {
            Check.due("action", x.action(0), i);
        }
    }

    private static void allowedBits() {
        int[] masks = {0, 1, 0x800000, 0xFFFFFF, 0xFF000000, 0x555555, ~0x555555, Integer.MIN_VALUE,
            Integer.MAX_VALUE, -1};
        for (int file = 0; file < 24; file++) {
            DynamicNeeds x = with24Files();
            for (int i = 0; i < masks.length; i++) {
                boolean allowed = ((long) masks[i] & (1L << file)) != 0;
                int a = reader(x, masks[i], PROBE, file);
                Check.due("file " + file + " by " + masks[i], x.run(a), allowed ? 1 : -1);
            }
        }
    }

    private static void allowedLater() {
        DynamicNeeds x = new DynamicNeeds(1);
        int a = x.action(0b110);
        for (int i = 0; i < 3; i++) {
            x.file(2L);
        }
        rows(x, a, READ, 2, READ, 1);
        Check.due("they came later", x.run(a), 1);
        rows(x, a, READ, 0);
        Check.due("another that came later", x.run(a), -1);
    }

    private static void actionIfFull() {
        DynamicNeeds x = withFiles(1, 3L);
        for (int i = 0; i < 12; i++) {
            x.action(0);
        }
        for (int i = 0; i < 3; i++) {
            Check.due("a 13th", x.action(ALL), NONE);
        }
        for (int i = 0; i < 12; i++) {
            Check.due("what is allowed stays", x.unused(i), 0);
            rows(x, i, READ, 0);
            Check.due("what is allowed stays", x.run(i), -1);
        }
        Check.due("run(12)", x.run(12), -9);
        Check.due("row(12)", x.row(12, READ, 0), false);
        Check.due("makes(12)", x.makes(12, 0), false);
    }

    // Promise 5

    private static void makesFromNowOn() {
        DynamicNeeds x = withFiles(1, 3L, 5L);
        int a = reader(x, ALL, READ, 0);
        Check.due("run", x.run(a), 1);
        Check.due("not yet made", x.digest(1), 5L);
        Check.due("can be changed", x.change(1, true, 6L), true);
        Check.due("makes", x.makes(a, 1), true);
        Check.due("can't be changed any more", x.change(1, true, 6L), false);
        Check.due("a try, not a reuse", x.run(a), 1);
        Check.due("none reused", x.counted(a, 0), 0);
        Check.due("made", x.digest(1), SUM_OFFSET + 3L);
    }

    private static void makesTakesAway() {
        DynamicNeeds x = withFiles(1, 3L, 5L);
        int looks = reader(x, ALL, PROBE, 1);
        Check.due("run", x.run(looks), 1);
        Check.due("makes", x.makes(x.action(ALL), 1), true);
        Check.due("digest", x.digest(1), 0L);
        Check.due("members", x.members(1), 0);
        Check.due("who looked at it isn't fresh", x.fresh(looks), false);
        Check.due("it is waited for", x.run(looks), 0);
    }

    private static void makesForgets() {
        DynamicNeeds x = withFiles(1, 3L, 5L);
        int a = reader(x, ALL, READ, 0);
        int other = reader(x, ALL, READ, 0);
        Check.due("run", x.run(a), 1);
        Check.due("run", x.run(other), 1);
        Check.due("makes", x.makes(a, 1), true);
        Check.due("kept", x.kept(a, 0, 0), NONE);
        Check.due("fresh", x.fresh(a), false);
        Check.due("unused", x.unused(a), 0b11);
        Check.due("what others kept stays", x.fresh(other), true);
    }

    private static void makesNoAction() {
        DynamicNeeds x = aBitOfAll();
        Check.due("file", x.file(8L), 4);
        String before = lookAt(x);
        for (int number : wrongNumbers(3)) {
            Check.due("makes(" + number + ", 4)", x.makes(number, 4), false);
        }
        Check.same("nothing changes", lookAt(x), before);
        Check.due("the file isn't made", x.change(4, true, 1L), true);
    }

    private static void makesNoFile() {
        DynamicNeeds x = aBitOfAll();
        int a = reader(x, ALL, READ, 0);
        Check.due("run", x.run(a), 1);
        String before = look(x, 4, 4, 2);
        for (int number : wrongNumbers(4)) {
            Check.due("makes(a, " + number + ")", x.makes(a, number), false);
        }
        Check.same("nothing changes", look(x, 4, 4, 2), before);
        Check.due("the next file", x.file(8L), 4);
        Check.due("it can make that", x.makes(a, 4), true);
    }

    private static void makesTwo() {
        DynamicNeeds x = aBitOfAll();
        Check.due("file", x.file(8L), 4);
        String before = lookAt(x);
        for (int a = 0; a < 3; a++) {
            Check.due("a second file", x.makes(a, 4), false);
            Check.due("its own again", x.makes(a, a + 1), false);
        }
        Check.same("nothing changes", lookAt(x), before);
        Check.due("digest", x.digest(4), 8L);
        Check.due("it isn't made", x.change(4, true, 9L), true);
    }

    private static void makesMade() {
        DynamicNeeds x = aBitOfAll();
        int a = reader(x, ALL, READ, 0);
        Check.due("run", x.run(a), 1);
        String before = look(x, 4, 4, 2);
        for (int file = 1; file <= 3; file++) {
            Check.due("makes", x.makes(a, file), false);
        }
        Check.same("nothing changes", look(x, 4, 4, 2), before);
        Check.due("one that isn't made", x.makes(a, 0), true);
    }

    // Promise 6

    private static void rowForgets(int kind, int which) {
        DynamicNeeds x = withFiles(1, 4L, 5L, 0L);
        int a = maker(x, 2, READ, 0);
        int other = reader(x, ALL, READ, 0);
        Check.due("run", x.run(a), 1);
        Check.due("run", x.run(other), 1);
        rows(x, a, kind, which);
        Check.due("kept", x.kept(a, 0, 0), NONE);
        Check.due("fresh", x.fresh(a), false);
        Check.due("what others kept stays", x.fresh(other), true);
        Check.due("a try", x.run(a), 1);
        Check.due("tries", x.counted(a, 1), 2);
    }

    private static void rowNoAction() {
        DynamicNeeds x = aBitOfAll();
        String before = lookAt(x);
        for (int number : wrongNumbers(3)) {
            Check.due("row(" + number + ", READ)", x.row(number, READ, 0), false);
            Check.due("row(" + number + ", PROBE)", x.row(number, PROBE, 0), false);
            Check.due("row(" + number + ", SKIP)", x.row(number, SKIP, 1), false);
        }
        Check.same("nothing changes", lookAt(x), before);
        int next = maker(x, NONE, NONE, 0);
        Check.due("the next action has no rows", x.run(next), 1);
        keeps(x, next);
    }

    private static void rowNoKind() {
        DynamicNeeds x = aBitOfAll();
        String before = lookAt(x);
        for (int kind : OTHER_KINDS) {
            Check.due("row(0, " + kind + ", 1)", x.row(0, kind, 1), false);
        }
        Check.same("nothing changes", lookAt(x), before);
    }

    private static void rowNoFile(int kind) {
        DynamicNeeds x = aBitOfAll();
        String before = lookAt(x);
        for (int number : wrongNumbers(4)) {
            Check.due("row(0, " + kind + ", " + number + ")", x.row(0, kind, number), false);
        }
        Check.same("nothing changes", lookAt(x), before);
        Check.due("file", x.file(1L), 4);
        Check.due("one that has come", x.row(0, kind, 4), true);
    }

    private static void rowSkipOutside() {
        DynamicNeeds x = aBitOfAll();
        String before = lookAt(x);
        for (int n : new int[] {0, -1, -8, Integer.MIN_VALUE, 9, 10, 12, 24, 257, Integer.MAX_VALUE}) {
            Check.due("SKIP " + n, x.row(0, SKIP, n), false);
        }
        Check.same("nothing changes", lookAt(x), before);
    }

    private static void rowSkipInside() {
        DynamicNeeds x = new DynamicNeeds(1);
        int a = x.action(ALL);
        for (int n = 1; n <= 8; n++) {
            Check.due("SKIP " + n, x.row(a, SKIP, n), true);
        }
        Check.due("run", x.run(a), 1);
    }

    private static void rowSkipWithoutFiles() {
        DynamicNeeds x = withFiles(1, 1L);
        int a = reader(x, ALL, READ, 0, SKIP, 8, PROBE, 0);
        Check.due("a SKIP's number is no FILE's", x.run(a), 1);
        keeps(x, a, 0, 1, 1);
    }

    private static void rowIfFull(int kind, int which) {
        DynamicNeeds x = withFiles(1, 4L, 0L);
        int a = maker(x, 1, NONE, 0);
        for (int i = 0; i < 12; i++) {
            Check.due("row " + (i + 1), x.row(a, kind, which), true);
        }
        Check.due("run", x.run(a), 1);
        String before = look(x, 2, 1, 0);
        for (int i = 0; i < 3; i++) {
            Check.due("a 13th", x.row(a, READ, 0), false);
            Check.due("a 13th", x.row(a, PROBE, 0), false);
            Check.due("a 13th", x.row(a, SKIP, 1), false);
        }
        Check.same("nothing changes", look(x, 2, 1, 0), before);
        long sum = x.digest(1);
        x.change(0, false, 4L);
        Check.due("run", x.run(a), kind == READ ? -3 : 1);
        x.change(0, true, 4L);
        Check.due("the same rows again", x.run(a), 1);
        Check.due("the same sum again", x.digest(1), sum);
        int other = maker(x, NONE, kind, which);
        Check.due("another has rows of its own", x.run(other), 1);
    }

    // Promise 7

    private static void runOutcomes() {
        DynamicNeeds x = withFiles(1, 4L, 5L, 0L);
        maker(x, 2, NONE, 0);
        x.change(1, false, 0L);
        int done = reader(x, ALL, READ, 0);
        int waiting = reader(x, ALL, READ, 2);
        int refused = reader(x, 0, READ, 0);
        int missing = reader(x, ALL, READ, 1);
        Check.due("DONE", x.run(done), 1);
        Check.due("WAITS", x.run(waiting), 0);
        Check.due("REFUSED", x.run(refused), -1);
        Check.due("STOPPED", x.run(waiting), -2);
        Check.due("MISSING", x.run(missing), -3);
    }

    private static void runNoneSuch() {
        DynamicNeeds x = aBitOfAll();
        String before = lookAt(x);
        for (int number : wrongNumbers(3)) {
            Check.due("run(" + number + ")", x.run(number), -9);
        }
        Check.same("nothing changes", lookAt(x), before);
        int next = x.action(ALL);
        Check.due("the next action was never tried", x.counted(next, 1), 0);
    }

    // Promise 8

    private static void resolveOutcomes() {
        DynamicNeeds x = withFiles(1, 4L, 5L, 0L);
        int ring = maker(x, 2, READ, 2);
        x.change(1, false, 0L);
        int done = reader(x, ALL, READ, 0);
        int refused = reader(x, 0, READ, 0);
        int missing = reader(x, ALL, READ, 1);
        Check.due("DONE", x.resolve(done), 1);
        Check.due("REFUSED", x.resolve(refused), -1);
        Check.due("MISSING", x.resolve(missing), -3);
        Check.due("in a RING", x.resolve(ring), -5);
        Check.due("STOPPED", x.resolve(ring), -2);
    }

    private static void resolveNoneSuch() {
        DynamicNeeds x = aBitOfAll();
        String before = lookAt(x);
        for (int number : wrongNumbers(3)) {
            Check.due("resolve(" + number + ")", x.resolve(number), -9);
        }
        Check.same("nothing changes, the ring neither", lookAt(x), before);
    }

    // Promise 9

    /** The action 3 reads what 1 makes; 1, 0, 2 are a ring in this order. */
    private static DynamicNeeds withRing(int tries) {
        DynamicNeeds x = withFiles(tries, 1L, 1L, 1L, 1L, 4L);
        maker(x, 0, READ, 2);
        maker(x, 1, READ, 0);
        maker(x, 2, READ, 1);
        maker(x, 3, READ, 1);
        return x;
    }

    private static void ringIs(DynamicNeeds x, int... dues) {
        for (int i = 0; i < dues.length; i++) {
            Check.due("ring(" + i + ")", x.ring(i), dues[i]);
        }
        Check.due("ring(" + dues.length + ")", x.ring(dues.length), NONE);
    }

    private static void ringOrder() {
        DynamicNeeds x = withRing(9);
        Check.due("from outside", x.resolve(3), -5);
        ringIs(x, 1, 0, 2);
        Check.due("from the first", x.resolve(1), -5);
        ringIs(x, 1, 0, 2);
        Check.due("from the second", x.resolve(0), -5);
        ringIs(x, 0, 2, 1);
        Check.due("from the third", x.resolve(2), -5);
        ringIs(x, 2, 1, 0);
    }

    private static void ringOfTheLatest() {
        DynamicNeeds x = withRing(9);
        Check.due("file", x.file(0L), 5);
        int own = maker(x, 5, PROBE, 5);
        Check.due("resolve", x.resolve(0), -5);
        ringIs(x, 0, 2, 1);
        Check.due("a shorter one", x.resolve(own), -5);
        ringIs(x, own);
        Check.due("a longer one", x.resolve(2), -5);
        ringIs(x, 2, 1, 0);
    }

    private static void ringBehindNoneSuch() {
        DynamicNeeds x = withRing(9);
        Check.due("resolve", x.resolve(3), -5);
        for (int number : wrongNumbers(4)) {
            Check.due("resolve(" + number + ")", x.resolve(number), -9);
            ringIs(x, 1, 0, 2);
        }
        int free = reader(x, ALL, READ, 4);
        Check.due("resolve", x.resolve(free), 1);
        Check.due("resolve(5)", x.resolve(5), -9);
        ringIs(x);
    }

    private static void ringNoneSuch() {
        DynamicNeeds x = withRing(9);
        Check.due("resolve", x.resolve(3), -5);
        for (int number : wrongNumbers(3)) {
            Check.due("ring(" + number + ")", x.ring(number), NONE);
        }
    }

    private static void ringAtFirst() {
        DynamicNeeds x = withRing(9);
        for (int i = -1; i <= 13; i++) {
            Check.due("ring(" + i + ")", x.ring(i), NONE);
        }
        Check.due("a run tells no ring", x.run(0), 0);
        ringIs(x);
        Check.due("resolve of none such", x.resolve(-1), -9);
        ringIs(x);
    }

    private static void ringBehind(int outcome) {
        DynamicNeeds x = withRing(1);
        int other = reader(x, outcome == -1 ? 0 : ALL, READ, 4);
        x.change(4, outcome != -3, 4L);
        Check.due("resolve", x.resolve(3), -5);
        ringIs(x, 1, 0, 2);
        // With one try each, those of the ring are stopped the next time.
        Check.due("resolve", x.resolve(outcome == -2 ? 3 : other), outcome);
        for (int i = -1; i <= 13; i++) {
            Check.due("ring(" + i + ")", x.ring(i), NONE);
        }
    }

    private static void ringBehindRun() {
        DynamicNeeds x = withRing(1);
        int other = reader(x, ALL, READ, 4);
        Check.due("resolve", x.resolve(3), -5);
        Check.due("run", x.run(other), 1);
        Check.due("run", x.run(3), -2);
        Check.due("run of none such", x.run(5), -9);
        ringIs(x, 1, 0, 2);
    }

    // Promise 10

    private static void waitsOfTheLatest() {
        DynamicNeeds x = withFiles(9, 0L, 0L, 3L);
        maker(x, 0, NONE, 0);
        int refused = reader(x, 0, READ, 2);
        Check.due("makes", x.makes(refused, 1), true);
        int a = reader(x, ALL, READ, 0, READ, 1);
        Check.due("run", x.run(a), 0);
        Check.due("the first, the file 0", x.waits(a), 0);
        Check.due("resolve", x.resolve(a), -1);
        Check.due("the second", x.waits(a), 1);
        rows(x, a, READ, 2);
        Check.due("a row is no run", x.waits(a), 1);
        Check.due("run of another", x.run(0), 1);
        Check.due("another's run", x.waits(a), 1);
    }

    private static void waitsBeforeRun() {
        DynamicNeeds x = withFiles(9, 0L);
        int a = maker(x, 0, READ, 0);
        Check.due("waits", x.waits(a), NONE);
    }

    /** The action 0 makes the file 0; 1 reads that and then the file 1, and waits. */
    private static DynamicNeeds withWaiting(int allowed) {
        DynamicNeeds x = withFiles(1, 0L, 5L);
        maker(x, 0, NONE, 0);
        reader(x, allowed, READ, 0, READ, 1);
        Check.due("run", x.run(1), 0);
        Check.due("waits", x.waits(1), 0);
        return x;
    }

    private static void waitsStopped() {
        DynamicNeeds x = withWaiting(ALL);
        Check.due("run", x.run(1), -2);
        Check.due("waits", x.waits(1), NONE);
    }

    private static void waitsDone() {
        DynamicNeeds x = withTree(4L);
        int a = reader(x, ALL, PROBE, 1);
        x.change(0, true, 1L);
        Check.due("run", x.run(a), 0);
        Check.due("waits", x.waits(a), 1);
        Check.due("run", x.run(0), 1);
        Check.due("still, before it is run", x.waits(a), 1);
        Check.due("DONE", x.run(a), 1);
        Check.due("waits", x.waits(a), NONE);
        Check.due("REUSED", x.run(a), 1);
        Check.due("waits", x.waits(a), NONE);
    }

    private static void waitsMissing() {
        DynamicNeeds x = withFiles(2, 0L, 5L);
        maker(x, 0, NONE, 0);
        x.change(1, false, 0L);
        int a = reader(x, ALL, READ, 0, READ, 1);
        Check.due("run", x.run(a), 0);
        Check.due("run", x.run(0), 1);
        Check.due("MISSING", x.run(a), -3);
        Check.due("waits", x.waits(a), NONE);
        Check.due("REUSED", x.run(a), -3);
        Check.due("waits", x.waits(a), NONE);
    }

    private static void waitsRefused() {
        DynamicNeeds x = withFiles(2, 0L, 5L);
        maker(x, 0, NONE, 0);
        int a = reader(x, 0b01, READ, 0, READ, 1);
        Check.due("run", x.run(a), 0);
        Check.due("run", x.run(0), 1);
        Check.due("REFUSED", x.run(a), -1);
        Check.due("waits", x.waits(a), NONE);
    }

    private static void waitsNoneSuch() {
        DynamicNeeds x = withWaiting(ALL);
        for (int number : wrongNumbers(2)) {
            Check.due("waits(" + number + ")", x.waits(number), NONE);
        }
    }

    // Promise 11

    private static void freshNoneSuch() {
        DynamicNeeds x = withTree(4L);
        Check.due("fresh(0)", x.fresh(0), true);
        for (int number : wrongNumbers(1)) {
            Check.due("fresh(" + number + ")", x.fresh(number), false);
        }
    }

    private static void freshChangesNothing() {
        DynamicNeeds x = aBitOfAll();
        String before = lookAt(x);
        for (int i = -1; i <= 3; i++) {
            Check.due("fresh(" + i + ")", x.fresh(i), i == 0);
        }
        Check.same("nothing changes", lookAt(x), before);
    }

    // Promise 12

    private static void keptOrder() {
        DynamicNeeds x = withFiles(1, 2L, 2L, 2L, 2L);
        int a = reader(x, ALL, PROBE, 3, READ, 1, PROBE, 0, READ, 3, READ, 0, PROBE, 1, READ, 2);
        Check.due("run", x.run(a), 1);
        keeps(x, a, 3, 1, 1, 1, 1, 1, 0, 1, 1, 2, 1, 1);
    }

    private static void keptThere() {
        DynamicNeeds x = withFiles(1, 2L, 2L, 2L);
        x.change(1, false, 0L);
        x.change(2, false, 0L);
        int a = reader(x, ALL, PROBE, 0, PROBE, 1, READ, 2);
        Check.due("run", x.run(a), -3);
        Check.due("there", x.kept(a, 0, 1), 1);
        Check.due("not there", x.kept(a, 1, 1), 0);
        Check.due("not there, READ", x.kept(a, 2, 1), 0);
        x.change(0, false, 0L);
        x.change(1, true, 0L);
        Check.due("as it was then", x.kept(a, 0, 1), 1);
        Check.due("as it was then", x.kept(a, 1, 1), 0);
    }

    private static void keptRead() {
        DynamicNeeds x = withFiles(1, 2L, 2L, 2L);
        int a = reader(x, ALL, PROBE, 0, READ, 1, PROBE, 2, READ, 2);
        Check.due("run", x.run(a), 1);
        Check.due("PROBE", x.kept(a, 0, 2), 0);
        Check.due("READ", x.kept(a, 1, 2), 1);
        Check.due("both", x.kept(a, 2, 2), 1);
    }

    private static void keptNoAction() {
        DynamicNeeds x = withTree(4L);
        Check.due("kept(0, 0, 0)", x.kept(0, 0, 0), 0);
        for (int number : wrongNumbers(1)) {
            for (int what = 0; what <= 2; what++) {
                Check.due("kept(" + number + ", 0, " + what + ")", x.kept(number, 0, what), NONE);
            }
        }
    }

    private static void keptNoPlace() {
        DynamicNeeds x = withTree(4L);
        for (int number : wrongNumbers(1)) {
            for (int what = 0; what <= 2; what++) {
                Check.due("kept(0, " + number + ", " + what + ")", x.kept(0, number, what), NONE);
            }
        }
        int none = x.action(ALL);
        Check.due("run", x.run(none), 1);
        Check.due("nothing was noted", x.kept(none, 0, 0), NONE);
    }

    private static void keptNothing() {
        DynamicNeeds x = withTree(4L);
        int a = reader(x, 0b101, READ, 0, READ, 2);
        Check.due("not run yet", x.kept(a, 0, 0), NONE);
        Check.due("run", x.run(a), 1);
        Check.due("kept", x.kept(a, 0, 0), 0);
        rows(x, a, PROBE, 1);
        Check.due("a row more", x.kept(a, 0, 0), NONE);
        Check.due("REFUSED", x.run(a), -1);
        Check.due("REFUSED", x.kept(a, 0, 0), NONE);
        int b = reader(x, ALL, READ, 2, READ, 1);
        x.change(0, true, 1L);
        Check.due("WAITS", x.run(b), 0);
        Check.due("WAITS", x.kept(b, 0, 0), NONE);
    }

    private static void keptOtherWhat() {
        DynamicNeeds x = withTree(4L);
        for (int what : OTHER_WHATS) {
            Check.due("kept(0, 0, " + what + ")", x.kept(0, 0, what), NONE);
            Check.due("kept(0, 1, " + what + ")", x.kept(0, 1, what), NONE);
        }
    }

    private static void keptMost() {
        DynamicNeeds x = with24Files();
        int a = x.action(ALL);
        for (int i = 0; i < 12; i++) {
            rows(x, a, i % 2, 23 - i);
        }
        Check.due("run", x.run(a), 1);
        for (int i = 0; i < 12; i++) {
            Check.due("kept(" + i + ")", x.kept(a, i, 0), 23 - i);
            Check.due("there", x.kept(a, i, 1), 1);
            Check.due("READ", x.kept(a, i, 2), 1 - i % 2);
        }
        Check.due("kept(12)", x.kept(a, 12, 0), NONE);
    }

    // Promise 13

    private static void unusedOfThoseThatAre() {
        DynamicNeeds x = new DynamicNeeds(1);
        int all = x.action(ALL);
        int some = x.action(0x81000005);
        Check.due("no files", x.unused(all), 0);
        for (int i = 0; i < 24; i++) {
            x.file(1L);
            Check.due("of all, files " + (i + 1), x.unused(all), (1 << (i + 1)) - 1);
            Check.due("of some, files " + (i + 1), x.unused(some), i < 2 ? 1 : 5);
        }
        x.change(2, false, 0L);
        Check.due("also one that isn't there", x.unused(some), 5);
    }

    private static void unusedButKept() {
        DynamicNeeds x = withFiles(1, 2L, 2L, 2L, 2L);
        int a = reader(x, 0b1011, READ, 0, PROBE, 1, PROBE, 0);
        Check.due("run", x.run(a), 1);
        Check.due("unused", x.unused(a), 0b1000);
        x.change(0, true, 3L);
        Check.due("kept, though not fresh", x.unused(a), 0b1000);
        x.change(0, false, 3L);
        Check.due("MISSING", x.run(a), -3);
        Check.due("kept by MISSING", x.unused(a), 0b1010);
        Check.due("file", x.file(1L), 4);
        Check.due("not allowed", x.unused(a), 0b1010);
    }

    private static void unusedAll() {
        DynamicNeeds x = withFiles(1, 2L, 2L, 2L, 0L);
        maker(x, 3, NONE, 0);
        int a = reader(x, 0b1101, READ, 0, READ, 3);
        Check.due("not run yet", x.unused(a), 0b1101);
        Check.due("WAITS", x.run(a), 0);
        Check.due("WAITS", x.unused(a), 0b1101);
        Check.due("STOPPED", x.run(a), -2);
        Check.due("STOPPED", x.unused(a), 0b1101);
        Check.due("run", x.run(0), 1);
        Check.due("DONE", x.run(a), 1);
        Check.due("DONE", x.unused(a), 0b0100);
        rows(x, a, READ, 1);
        Check.due("a row more", x.unused(a), 0b1101);
        Check.due("REFUSED", x.run(a), -1);
        Check.due("REFUSED", x.unused(a), 0b1101);
        int none = x.action(0b11);
        Check.due("run", x.run(none), 1);
        Check.due("nothing was noted", x.unused(none), 0b11);
    }

    private static void unusedNoneSuch() {
        DynamicNeeds x = withTree(4L);
        Check.due("unused(0)", x.unused(0), 0b110);
        for (int number : wrongNumbers(1)) {
            Check.due("unused(" + number + ")", x.unused(number), 0);
        }
    }

    private static void unusedNone() {
        DynamicNeeds x = withFiles(1, 2L, 2L);
        int a = reader(x, 0b11, READ, 0, PROBE, 1);
        Check.due("run", x.run(a), 1);
        Check.due("all are kept", x.unused(a), 0);
        int b = x.action(0);
        Check.due("none is allowed", x.unused(b), 0);
        int c = x.action(0xFF000000);
        Check.due("none of those that are is allowed", x.unused(c), 0);
    }

    // Promise 14

    private static void digestNotThere() {
        DynamicNeeds x = withTree(4L);
        x.change(2, false, 9L);
        Check.due("taken away", x.digest(2), 0L);
        x.change(0, false, 9L);
        Check.due("of old, while not fresh", x.digest(1), 4L);
        Check.due("run", x.run(0), -3);
        Check.due("not made", x.digest(1), 0L);
        Check.due("makes", x.makes(x.action(ALL), 0), true);
        Check.due("not made yet", x.digest(0), 0L);
    }

    private static void digestNoneSuch() {
        DynamicNeeds x = withTree(4L);
        for (int number : wrongNumbers(3)) {
            Check.due("digest(" + number + ")", x.digest(number), 0L);
        }
        DynamicNeeds full = with24Files();
        for (int number : wrongNumbers(24)) {
            Check.due("digest(" + number + ")", full.digest(number), 0L);
        }
    }

    // Promise 15

    private static void countedReused() {
        DynamicNeeds x = withTree(4L);
        Check.due("none at first", x.counted(0, 0), 0);
        Check.due("run", x.run(0), 1);
        Check.due("a run", x.counted(0, 0), 1);
        Check.due("resolve", x.resolve(0), 1);
        Check.due("a resolve", x.counted(0, 0), 2);
        int a = reader(x, ALL, READ, 1);
        Check.due("run", x.run(a), 1);
        Check.due("a try that looks at it is none", x.counted(0, 0), 2);
        x.change(0, false, 1L);
        Check.due("run", x.run(0), -3);
        Check.due("a try is none", x.counted(0, 0), 2);
        Check.due("run", x.run(0), -3);
        Check.due("MISSING", x.counted(0, 0), 3);
        rows(x, 0, READ, 0);
        Check.due("it stays", x.counted(0, 0), 3);
    }

    private static void countedInAll() {
        DynamicNeeds x = withFiles(2, 1L, 0L);
        int a = maker(x, 1, READ, 1);
        Check.due("none at first", x.counted(a, 1), 0);
        Check.due("WAITS", x.run(a), 0);
        Check.due("WAITS", x.counted(a, 1), 1);
        Check.due("WAITS", x.run(a), 0);
        Check.due("WAITS", x.counted(a, 1), 2);
        Check.due("STOPPED", x.run(a), -2);
        Check.due("STOPPED is none", x.counted(a, 1), 2);
        int b = reader(x, 1, READ, 0);
        Check.due("DONE", x.run(b), 1);
        Check.due("DONE", x.counted(b, 1), 1);
        Check.due("REUSED", x.run(b), 1);
        Check.due("REUSED is none", x.counted(b, 1), 1);
        x.change(0, false, 0L);
        Check.due("MISSING", x.run(b), -3);
        Check.due("MISSING", x.counted(b, 1), 2);
        int c = reader(x, 0, READ, 0);
        Check.due("REFUSED", x.run(c), -1);
        Check.due("REFUSED", x.counted(c, 1), 1);
    }

    private static void countedSince() {
        DynamicNeeds x = withFiles(3, 1L, 0L);
        maker(x, 1, NONE, 0);
        int a = reader(x, ALL, READ, 1);
        Check.due("none at first", x.counted(a, 2), 0);
        Check.due("WAITS", x.run(a), 0);
        Check.due("WAITS", x.counted(a, 2), 1);
        rows(x, a, READ, 0);
        Check.due("a row leaves it", x.counted(a, 2), 1);
        Check.due("WAITS", x.run(a), 0);
        Check.due("WAITS", x.counted(a, 2), 2);
        Check.due("run", x.run(0), 1);
        Check.due("DONE", x.run(a), 1);
        Check.due("DONE", x.counted(a, 2), 0);
        x.change(0, false, 1L);
        Check.due("MISSING", x.run(a), -3);
        Check.due("MISSING", x.counted(a, 2), 0);
        int b = reader(x, 0, READ, 0);
        Check.due("REFUSED", x.run(b), -1);
        Check.due("REFUSED", x.counted(b, 2), 0);
    }

    private static void countedNoneSuch() {
        DynamicNeeds x = withTree(4L);
        for (int number : wrongNumbers(1)) {
            for (int what = 0; what <= 2; what++) {
                Check.due("counted(" + number + ", " + what + ")", x.counted(number, what), NONE);
            }
        }
    }

    private static void countedOtherWhat() {
        DynamicNeeds x = withTree(4L);
        for (int what : OTHER_WHATS) {
            Check.due("counted(0, " + what + ")", x.counted(0, what), NONE);
        }
    }

    // Promise 16

    private static void membersNotMade() {
        DynamicNeeds x = withFiles(1, 1L, 4L);
        Check.due("members(0)", x.members(0), 0);
        Check.due("members(1)", x.members(1), 0);
        int a = reader(x, ALL, READ, 1);
        Check.due("run", x.run(a), 1);
        Check.due("members of one that was READ", x.members(1), 0);
    }

    private static void membersNotThere() {
        DynamicNeeds x = withTree(4L);
        Check.due("makes", x.makes(x.action(ALL), 2), true);
        Check.due("not made yet", x.members(2), 0);
        x.change(0, false, 0L);
        Check.due("run", x.run(0), -3);
        Check.due("MISSING", x.members(1), 0);
    }

    private static void membersNoneSuch() {
        DynamicNeeds x = withTree(4L);
        for (int number : wrongNumbers(3)) {
            Check.due("members(" + number + ")", x.members(number), 0);
        }
    }

    private static void membersNotFresh() {
        DynamicNeeds x = withTree(4L);
        x.change(0, false, 0L);
        Check.due("not fresh", x.fresh(0), false);
        Check.due("made and there", x.members(1), 4);
        rows(x, 0, READ, 2);
        Check.due("made and there", x.members(1), 4);
    }

    // Promise 17

    private static void mappingNumbers() {
        DynamicNeeds x = withTree(4L);
        for (int i = 0; i < 6; i++) {
            Check.due("mapping", x.mapping(1, 0L), i);
        }
    }

    private static void mappingNoFile() {
        DynamicNeeds x = withTree(4L);
        for (int number : wrongNumbers(3)) {
            Check.due("mapping(" + number + ")", x.mapping(number, 1L), NONE);
        }
        Check.due("none was made", x.map(0), NONE);
        Check.due("the first", x.mapping(1, 1L), 0);
        Check.due("file", x.file(1L), 3);
        Check.due("of one that has come", x.mapping(3, 1L), 1);
    }

    private static void mappingIfFull() {
        DynamicNeeds x = withTree(4L);
        for (int i = 0; i < 6; i++) {
            x.mapping(1, i);
        }
        for (int i = 0; i < 3; i++) {
            Check.due("a 7th", x.mapping(0, 99L), NONE);
        }
        for (int i = 0; i < 6; i++) {
            Check.due("its file stays", x.map(i), 4);
            Check.due("its salt stays", x.result(i, 0), 17L * 4L + i);
        }
        Check.due("map(6)", x.map(6), NONE);
        Check.due("result(6, 0)", x.result(6, 0), 0L);
    }

    private static void mappingOfAnyFile() {
        DynamicNeeds x = withFiles(1, 4L - SUM_OFFSET, 0L);
        Check.due("isn't made", x.mapping(1, 3L), 0);
        x.change(1, false, 0L);
        Check.due("isn't there", x.mapping(1, 3L), 1);
        int a = maker(x, 1, READ, 0);
        Check.due("isn't made yet", x.mapping(1, 3L), 2);
        Check.due("run", x.run(a), 1);
        for (int i = 0; i < 3; i++) {
            Check.due("map", x.map(i), 4);
            Check.due("result", x.result(i, 0), 71L);
        }
    }

    // Promise 18

    private static void mapNoneSuch() {
        // The file 0 is made here: what isn't there must not be taken for a mapping of that.
        DynamicNeeds x = withFiles(1, 0L, 5L - SUM_OFFSET - 1L);
        maker(x, 0, READ, 1);
        Check.due("run", x.run(0), 1);
        Check.due("members", x.members(0), 4);
        for (int number : wrongNumbers(0)) {
            Check.due("map(" + number + ") of none", x.map(number), NONE);
        }
        Check.due("mapping", x.mapping(0, 5L), 0);
        for (int number : wrongNumbers(1)) {
            Check.due("map(" + number + ")", x.map(number), NONE);
        }
        Check.due("mapping", x.mapping(0, 5L), 1);
        Check.due("none was mapped", x.map(1), 4);
    }

    private static void mapNotMade() {
        DynamicNeeds x = withTree(4L);
        Check.due("mapping", x.mapping(2, 5L), 0);
        x.change(2, true, 4L);
        Check.due("there", x.map(0), NONE);
        x.change(2, false, 4L);
        Check.due("not there", x.map(0), NONE);
        Check.due("result", x.result(0, 0), 0L);
    }

    private static void mapNotFresh() {
        DynamicNeeds x = withTree(4L);
        Check.due("mapping", x.mapping(1, 5L), 0);
        x.change(0, true, 1L);
        Check.due("there, not fresh", x.map(0), NONE);
        x.change(0, true, 4L - SUM_OFFSET);
        Check.due("fresh again", x.map(0), 4);
        rows(x, 0, SKIP, 1);
        Check.due("a row more", x.map(0), NONE);
        Check.due("run", x.run(0), 1);
        Check.due("fresh again", x.map(0), 0);
        Check.due("makes", x.makes(x.action(ALL), 0), true);
        Check.due("its need is made by one that isn't fresh", x.map(0), NONE);
    }

    private static void mapNotThere() {
        DynamicNeeds x = withTree(4L);
        Check.due("mapping", x.mapping(1, 5L), 0);
        x.change(0, false, 1L);
        Check.due("run", x.run(0), -3);
        Check.due("fresh", x.fresh(0), true);
        Check.due("fresh, not there", x.map(0), NONE);
        Check.due("makes", x.makes(x.action(ALL), 2), true);
        Check.due("mapping", x.mapping(2, 5L), 1);
        Check.due("made, never run", x.map(1), NONE);
    }

    private static void mapOfNoneChangesNothing() {
        DynamicNeeds x = aBitOfAll();
        x.change(0, true, 9L - SUM_OFFSET);
        String before = lookAt(x);
        Check.due("not fresh", x.map(0), NONE);
        Check.due("not there", x.map(1), NONE);
        Check.due("none such", x.map(2), NONE);
        Check.same("nothing changes", lookAt(x), before);
        x.change(0, true, 4L - SUM_OFFSET);
        Check.due("the members before are still known", x.map(0), 0);
    }

    private static void mapNoMembers() {
        DynamicNeeds x = withTree(0L);
        Check.due("mapping", x.mapping(1, 5L), 0);
        Check.due("digest 0", x.map(0), 0);
        reshape(x, -5L);
        Check.due("digest - 5", x.map(0), 0);
        Check.due("result", x.result(0, 0), 0L);
    }

    // Promise 19

    private static void resultOfTheLatest() {
        DynamicNeeds x = withTree(4L);
        Check.due("mapping", x.mapping(1, 5L), 0);
        Check.due("map", x.map(0), 4);
        Check.due("result", x.result(0, 0), 17L * 4L + 5L);
        reshape(x, 6L);
        Check.due("not mapped yet", x.result(0, 0), 17L * 4L + 5L);
        Check.due("not mapped yet", x.result(0, 3), 17L * (4L ^ 3000009L) + 5L);
        Check.due("map", x.map(0), 1);
        Check.due("result", x.result(0, 0), 17L * 6L + 5L);
        Check.due("there is but one now", x.result(0, 1), 0L);
    }

    private static void resultBehindNone() {
        DynamicNeeds x = withTree(4L);
        Check.due("mapping", x.mapping(1, 5L), 0);
        Check.due("map", x.map(0), 4);
        x.change(0, true, 1L);
        Check.due("not fresh", x.map(0), NONE);
        Check.due("result", x.result(0, 3), 17L * (4L ^ 3000009L) + 5L);
        x.change(0, false, 1L);
        Check.due("run", x.run(0), -3);
        Check.due("not there", x.map(0), NONE);
        Check.due("result", x.result(0, 3), 17L * (4L ^ 3000009L) + 5L);
    }

    private static void resultNoMapping() {
        DynamicNeeds x = withTree(4L);
        Check.due("mapping", x.mapping(1, 5L), 0);
        Check.due("map", x.map(0), 4);
        for (int number : wrongNumbers(1)) {
            Check.due("result(" + number + ", 0)", x.result(number, 0), 0L);
        }
    }

    private static void resultNoPlace() {
        for (int size = 0; size < 5; size++) {
            DynamicNeeds x = withTree(size);
            Check.due("mapping", x.mapping(1, 5L), 0);
            Check.due("map", x.map(0), size);
            for (int number : wrongNumbers(size)) {
                Check.due("result(0, " + number + ") of " + size, x.result(0, number), 0L);
            }
            for (int i = 0; i < size; i++) {
                Check.due("result(0, " + i + ")", x.result(0, i), 17L * (size ^ (i * 1000003L)) + 5L);
            }
        }
    }

    private static void resultBeforeMap() {
        DynamicNeeds x = withTree(4L);
        Check.due("mapping", x.mapping(1, 5L), 0);
        for (int i = -1; i <= 4; i++) {
            Check.due("result(0, " + i + ")", x.result(0, i), 0L);
        }
    }
}
