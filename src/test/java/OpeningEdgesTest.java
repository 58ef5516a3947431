/** Promise 3 with "Terms", OPENING and PERMIT: each sentence that names a boundary case, by itself. */
public final class OpeningEdgesTest {
    private static final int[] OUTCOMES_TOLD = {0, 1, 2, 3, 4, 5, 6};
    private static final Due DUE = new Due();

    public static void main(String[] args) {
        openAlready();
        missingForOutput();
        missingForOthers();
        otherOutcomes();
        openByZeroAndFiveAlone();
        positionAheadOfAll();
        theEndsBeginning();
        theEndsBeginningIsForModesZeroAndTwo();
        theEndsBeginningIsForOneRead();
        aCheckGoesAheadOfTheEndsBeginning();
        anOpeningTakesThePermitAway();
        DUE.end();
    }

    private static void openAlready() {
        DUE.by("OPENING, \"open already: 41\"");
        for (int mode = 0; mode <= 3; mode++) {
            FileStatus there = Files.opened(0, mode);
            FileStatus missing = Files.openedMissing(0, mode);
            for (int outcome : OUTCOMES_TOLD) {
                DUE.is("open(" + outcome + ")", there.open(outcome), 41);
                DUE.is("open by 5: open(" + outcome + ")", missing.open(outcome), 41);
            }
            for (int outcome : Files.outside(0, 6)) {
                DUE.is("open(" + outcome + ")", there.open(outcome), 41);
            }
            DUE.is("the mode is as it was", there.count(0), mode);
        }
        FileStatus file = Files.opened(0, 0);
        file.act(6, 5);
        DUE.is("closing failed: open(0)", file.open(0), 41);
        file.act(6, 0);
        DUE.is("closed: open(0)", file.open(0), 0);
    }

    private static void missingForOutput() {
        DUE.by("OPENING, \"1 it is missing: mode 1: 0\"");
        for (int i = 0; i <= 1; i++) {
            FileStatus file = new FileStatus(0);
            file.mode(1);
            file.optional(i == 1);
            DUE.is("optional " + i + ": open(1)", file.open(1), 0);
            DUE.is("optional " + i + ": it is open", file.count(0), 1);
        }
    }

    private static void missingForOthers() {
        DUE.by("OPENING, \"others 5 if it is optional, else 35\"");
        for (int mode : new int[] {0, 2, 3}) {
            FileStatus file = new FileStatus(0);
            file.mode(mode);
            DUE.is("mode " + mode + ": open(1)", file.open(1), 35);
            DUE.is("mode " + mode + ": it is closed", file.count(0), FileStatus.NONE);
            file.optional(true);
            DUE.is("mode " + mode + ", optional: open(1)", file.open(1), 5);
            DUE.is("mode " + mode + ", optional: it is open", file.count(0), mode);
        }
    }

    private static void otherOutcomes() {
        DUE.by("OPENING, \"other outcomes: 90\"");
        for (int mode = 0; mode <= 3; mode++) {
            FileStatus file = new FileStatus(1);
            file.mode(mode);
            file.optional(true);
            for (int outcome : Files.outside(0, 6)) {
                DUE.is("mode " + mode + ": open(" + outcome + ")", file.open(outcome), 90);
                DUE.is("mode " + mode + ": it is closed", file.count(0), FileStatus.NONE);
            }
            DUE.is("mode " + mode + ": open(6)", file.open(6), 61);
            DUE.is("mode " + mode + ": open(0)", file.open(0), 0);
        }
    }

    private static void openByZeroAndFiveAlone() {
        DUE.by("OPENING, \"by 0 and 5 it is open\"");
        for (int outcome : OUTCOMES_TOLD) {
            FileStatus file = new FileStatus(0);
            int status = file.open(outcome);
            DUE.is("by " + status + ": count(0)", file.count(0), status == 0 ? 0 : FileStatus.NONE);
            DUE.is("by " + status + ": act(6, 0)", file.act(6, 0), status == 0 ? 0 : 42);
        }
        DUE.is("by 5: act(6, 0)", Files.openedMissing(0, 0).act(6, 0), 0);
    }

    private static void positionAheadOfAll() {
        DUE.by("OPENING, \"by 0 and 5 .. the position ahead of all\"");
        for (int outcome = 0; outcome <= 1; outcome++) {
            FileStatus file = new FileStatus(0);
            file.optional(true);
            file.open(0);
            file.act(0, 1);
            file.act(0, 0);
            file.act(6, 0);
            DUE.is("lost, then open(" + outcome + ")", file.open(outcome), 5 * outcome);
            DUE.is("lost, then open(" + outcome + "): count(1)", file.count(1), 0);
        }
        FileStatus file = Files.opened(0, 0);
        file.act(0, 1);
        file.open(0);
        DUE.is("at the end, then an opening by 41: count(1)", file.count(1), 2);
    }

    private static void theEndsBeginning() {
        DUE.by("OPENING, \"the next read next answers 10 whatever its outcome\"");
        for (int organisation = 0; organisation <= 2; organisation++) {
            for (int outcome = 0; outcome <= 8; outcome++) {
                DUE.is("act(0, " + outcome + ")", Files.openedMissing(organisation, 0).act(0, outcome), 10);
            }
            for (int outcome : Files.outside(0, 8)) {
                DUE.is("act(0, " + outcome + ")", Files.openedMissing(organisation, 0).act(0, outcome), 10);
            }
        }
        FileStatus file = Files.openedMissing(2, 2);
        file.act(2, 0);
        file.act(5, 0);
        file.act(1, 0);
        DUE.is("after acts of other kinds: act(0, 0)", file.act(0, 0), 10);
        DUE.is("it is at the end then", file.count(1), 2);
    }

    private static void theEndsBeginningIsForModesZeroAndTwo() {
        DUE.by("OPENING, \"by 5 in modes 0 and 2 at the end's beginning\"");
        int[] due = {10, 47, 10, 47};
        for (int mode = 0; mode <= 3; mode++) {
            DUE.is("mode " + mode + ": act(0, 0)", Files.openedMissing(1, mode).act(0, 0), due[mode]);
        }
        DUE.is("by 0: act(0, 0)", Files.opened(1, 0).act(0, 0), 0);
        FileStatus extended = Files.openedMissing(1, 3);
        extended.act(6, 0);
        extended.mode(0);
        extended.open(0);
        DUE.is("by 5 to extend, then by 0 for input: act(0, 0)", extended.act(0, 0), 0);
    }

    private static void theEndsBeginningIsForOneRead() {
        DUE.by("OPENING, \"the next read next\", that one alone");
        FileStatus file = Files.openedMissing(1, 0);
        file.act(0, 0);
        DUE.is("the read next after it", file.act(0, 0), 46);
        file.act(5, 0);
        DUE.is("the read next after a start", file.act(0, 0), 0);
        FileStatus again = Files.openedMissing(1, 0);
        again.act(6, 0);
        again.open(0);
        DUE.is("closed, and open by 0: the read next", again.act(0, 0), 0);
        again.act(6, 0);
        again.open(1);
        DUE.is("closed, and open by 5 again: the read next", again.act(0, 0), 10);
    }

    private static void aCheckGoesAheadOfTheEndsBeginning() {
        DUE.by("OPENING, \"unless a check ahead of outcomes answers\"");
        for (int kind : new int[] {1, 5}) {
            FileStatus lost = Files.openedMissing(1, 0);
            lost.act(kind, 1);
            DUE.is("lost by act " + kind + ": act(0, 0)", lost.act(0, 0), 46);
            DUE.is("lost by act " + kind + ": count(1)", lost.count(1), 3);
        }
        FileStatus closed = Files.openedMissing(1, 0);
        closed.act(6, 0);
        DUE.is("closed: act(0, 0)", closed.act(0, 0), 42);
    }

    private static void anOpeningTakesThePermitAway() {
        DUE.by("PERMIT, \"an opening, whatever it answers, takes it away\"");
        for (int outcome : OUTCOMES_TOLD) {
            FileStatus file = Files.opened(0, 2);
            file.act(0, 0);
            DUE.is("a read gives it", file.count(2), 1);
            file.open(outcome);
            DUE.is("open(" + outcome + "): count(2)", file.count(2), 0);
            DUE.is("open(" + outcome + "), then act(3, 0)", file.act(3, 0), 43);
        }
        FileStatus file = Files.opened(0, 2);
        file.act(0, 0);
        file.act(6, 0);
        for (int outcome = 7; outcome >= 0; outcome--) {
            file.open(outcome);
            DUE.is("closed, then open(" + outcome + "): count(2)", file.count(2), 0);
        }
    }
}
