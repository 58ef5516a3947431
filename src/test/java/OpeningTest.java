/** Promise 3: open. */
public final class OpeningTest {
    private static final Due DUE = new Due();

    public static void main(String[] args) {
        DUE.by("Promise 3");
        everyOutcomeAnswers();
        onlyZeroAndFiveOpen();
        anOpenFileIsNotOpenedAgain();
        openingTakesThePermitAway();
        openingPutsThePositionAhead();
        aFailedOpeningLeavesThePosition();
        theNextReadOfAMissingFileIsAtTheEnd();
        otherActsKeepTheEndForTheNextRead();
        aCheckGoesAheadOfTheEnd();
        anotherOpeningForgetsTheEnd();
        DUE.end();
    }

    private static void everyOutcomeAnswers() {
        int[] outcomes = {0, 1, 2, 3, 4, 5, 6, 7, 8, 9, -1, Integer.MIN_VALUE, Integer.MAX_VALUE};
        for (int organisation = 0; organisation <= 2; organisation++) {
            for (int mode = 0; mode <= 3; mode++) {
                for (int outcome : outcomes) {
                    tryOpening(organisation, mode, false, outcome);
                    tryOpening(organisation, mode, true, outcome);
                }
            }
        }
    }

    private static void tryOpening(int organisation, int mode, boolean optional, int outcome) {
        FileStatus file = new FileStatus(organisation);
        file.mode(mode);
        file.optional(optional);
        int due = Tables.opening(mode, optional, outcome);
        String call = organisation + "/" + mode + "/" + optional + ": open(" + outcome + ")";
        DUE.is(call, file.open(outcome), due);
        DUE.is(call + " mode", file.count(0), due <= 9 ? mode : FileStatus.NONE);
        DUE.is(call + " position", file.count(1), 0);
        DUE.is(call + " latest status", file.count(3), due);
        DUE.is(call + " good acts", file.count(4), 0);
        DUE.is(call + " bad ones", file.count(5), due <= 9 ? 0 : 1);
        DUE.is(call + " latest act", file.extended(0), 10 * organisation + 7);
    }

    private static void onlyZeroAndFiveOpen() {
        FileStatus file = new FileStatus(0);
        for (int outcome = 1; outcome <= 7; outcome++) {
            file.open(outcome);
            DUE.is("open(" + outcome + "), then act(0, 0)", file.act(0, 0), 42);
        }
        file.optional(true);
        file.open(1);
        DUE.is("open by 5, then act(6, 0)", file.act(6, 0), 0);
    }

    private static void anOpenFileIsNotOpenedAgain() {
        FileStatus file = Files.opened(1, 2);
        for (int outcome = -1; outcome <= 8; outcome++) {
            DUE.is("open: open(" + outcome + ")", file.open(outcome), 41);
        }
        DUE.is("still open in its mode", file.count(0), 2);
        DUE.is("openings that answered 41", file.count(5), 10);
    }

    private static void openingTakesThePermitAway() {
        FileStatus file = Files.opened(0, 2);
        file.act(0, 0);
        DUE.is("a read gives a permit", file.count(2), 1);
        file.open(0);
        DUE.is("41 takes it away", file.count(2), 0);
        DUE.is("41, then rewrite", file.act(3, 0), 43);
    }

    private static void openingPutsThePositionAhead() {
        FileStatus file = Files.opened(0, 0);
        file.act(0, 1);
        file.act(6, 0);
        DUE.is("closing leaves the position", file.count(1), 2);
        file.open(0);
        DUE.is("opening by 0", file.count(1), 0);
        file.act(0, 1);
        file.act(6, 0);
        file.optional(true);
        file.open(1);
        DUE.is("opening by 5", file.count(1), 0);
        DUE.is("opening by 5, to extend", Files.openedMissing(0, 3).count(1), 0);
    }

    private static void aFailedOpeningLeavesThePosition() {
        FileStatus file = Files.opened(0, 0);
        file.act(0, 0);
        file.open(0);
        DUE.is("by 41", file.count(1), 1);
        file.act(6, 0);
        file.open(5);
        DUE.is("by 30", file.count(1), 1);
    }

    private static void theNextReadOfAMissingFileIsAtTheEnd() {
        for (int organisation = 0; organisation <= 2; organisation++) {
            for (int mode = 0; mode <= 2; mode += 2) {
                for (int outcome = -1; outcome <= 9; outcome++) {
                    FileStatus file = Files.openedMissing(organisation, mode);
                    String call = organisation + "/" + mode + ": missing: act(0, " + outcome + ")";
                    DUE.is(call, file.act(0, outcome), 10);
                    DUE.is(call + " position", file.count(1), 2);
                    DUE.is(call + " again", file.act(0, outcome), 46);
                }
            }
        }
        FileStatus file = Files.openedMissing(1, 0);
        file.act(0, 0);
        file.act(5, 0);
        DUE.is("only the next read is at the end", file.act(0, 0), 0);
        DUE.is("to extend: act(0, 0)", Files.openedMissing(1, 3).act(0, 0), 47);
        FileStatus made = new FileStatus(1);
        made.mode(2);
        made.open(0);
        DUE.is("opened by 0: act(0, 0)", made.act(0, 0), 0);
    }

    private static void otherActsKeepTheEndForTheNextRead() {
        FileStatus file = Files.openedMissing(2, 2);
        DUE.is("missing: write", file.act(2, 0), 0);
        DUE.is("missing: start", file.act(5, 0), 0);
        DUE.is("missing: read by key", file.act(1, 7), 4);
        DUE.is("missing: a kind that is none", file.act(7, 0), -4);
        DUE.is("missing: open again", file.open(0), 41);
        DUE.is("missing: closing fails", file.act(6, 5), 30);
        DUE.is("missing: read next", file.act(0, 0), 10);
    }

    private static void aCheckGoesAheadOfTheEnd() {
        FileStatus file = Files.openedMissing(2, 0);
        DUE.is("missing: start finds none", file.act(5, 1), 23);
        DUE.is("missing and lost: read next", file.act(0, 0), 46);
        DUE.is("missing: start", file.act(5, 0), 0);
        // The read next that the opening spoke of was the one that 46 answered.
        DUE.is("missing: the read next after that", file.act(0, 0), 0);
    }

    private static void anotherOpeningForgetsTheEnd() {
        FileStatus file = Files.openedMissing(0, 0);
        file.act(6, 0);
        file.open(0);
        DUE.is("it is there now: read next", file.act(0, 0), 0);
    }
}
