/** Promise 4 with "Terms", ACTS and WHAT A STATUS DOES: each sentence that names a boundary case, by itself. */
public final class ActEdgesTest {
    private static final Due DUE = new Due();

    public static void main(String[] args) {
        kindsOutside();
        outcomesOutside();
        closed();
        actsNoSequentialFileHas();
        readsInOtherModes();
        writesInOtherModes();
        rewritesAndDeletesInOtherModes();
        rewriteWithoutAPermit();
        permitByZeroTwoAndFourAlone();
        readNextAtTheEndOrLost();
        closedIsFirst();
        actsNoSequentialFileHasAreSecond();
        theModeIsThird();
        checksGoAheadOfOutcomes();
        whatIsNotTold();
        closingThatFails();
        whatAStatusDoesNot();
        DUE.end();
    }

    private static String call(int kind, int outcome) {
        return "act(" + kind + ", " + outcome + ")";
    }

    private static void kindsOutside() {
        DUE.by("Promise 4, \"-4 when kind is not 0 .. 6\"");
        for (int organisation = 0; organisation <= 2; organisation++) {
            FileStatus closed = new FileStatus(organisation);
            FileStatus open = Files.opened(organisation, 2);
            open.act(0, 0);
            String before = Files.state(open);
            for (int kind : Files.outside(0, 6)) {
                DUE.is("closed: " + call(kind, 0), closed.act(kind, 0), -4);
                DUE.is("open: " + call(kind, 0), open.act(kind, 0), -4);
                DUE.is("open: " + call(kind, 9), open.act(kind, 9), -4);
            }
            DUE.is("the state is as it was", before.equals(Files.state(open)) ? 1 : 0, 1);
            DUE.is("the permit is still there", open.act(3, 0), 0);
            DUE.is(call(6, 0), open.act(6, 0), 0);
        }
    }

    private static void outcomesOutside() {
        DUE.by("Promise 4, \"others than 0 .. 8: as one that isn't told\"");
        for (int kind = 0; kind <= 6; kind++) {
            for (int outcome : Files.outside(0, 8)) {
                FileStatus file = Files.opened(2, 2);
                DUE.is(call(kind, outcome), file.act(kind, outcome), 90);
                DUE.is(call(kind, outcome) + ", then count(3)", file.count(3), 90);
                DUE.is(call(kind, outcome) + ", then count(5)", file.count(5), 1);
                DUE.is(call(kind, outcome) + ", then extended(0)", file.extended(0), 20 + kind);
            }
        }
        DUE.is(call(2, 8), Files.opened(2, 2).act(2, 8), 21);
    }

    private static void closed() {
        DUE.by("ACTS, \"closed: 42\"");
        for (int organisation = 0; organisation <= 2; organisation++) {
            FileStatus neverOpen = new FileStatus(organisation);
            FileStatus closedAgain = Files.opened(organisation, 2);
            closedAgain.act(6, 0);
            FileStatus notOpened = new FileStatus(organisation);
            notOpened.open(1);
            for (int kind = 0; kind <= 6; kind++) {
                DUE.is("never open: " + call(kind, 0), neverOpen.act(kind, 0), 42);
                DUE.is("closed again: " + call(kind, 0), closedAgain.act(kind, 0), 42);
                DUE.is("not opened: " + call(kind, 0), notOpened.act(kind, 0), 42);
            }
        }
    }

    private static void actsNoSequentialFileHas() {
        DUE.by("ACTS, \"acts 1, 4, 5 of a sequential file: 90\"");
        for (int kind : new int[] {1, 4, 5}) {
            for (int outcome = 0; outcome <= 8; outcome++) {
                DUE.is("0: " + call(kind, outcome), Files.opened(0, 2).act(kind, outcome), 90);
            }
            DUE.is("1: " + call(kind, 0), Files.opened(1, 2).act(kind, 0), 0);
            DUE.is("2: " + call(kind, 0), Files.opened(2, 2).act(kind, 0), 0);
        }
    }

    private static void tryModes(int organisation, int kind, int[] due) {
        for (int mode = 0; mode <= 3; mode++) {
            FileStatus file = Files.opened(organisation, mode);
            file.act(0, 0);
            DUE.is(organisation + ", mode " + mode + ": " + call(kind, 0), file.act(kind, 0), due[mode]);
        }
    }

    private static void readsInOtherModes() {
        DUE.by("ACTS, \"acts 0, 1, 5 are for modes 0, 2: 47\"");
        int[] due = {0, 47, 0, 47};
        tryModes(0, 0, due);
        for (int organisation = 1; organisation <= 2; organisation++) {
            tryModes(organisation, 0, due);
            tryModes(organisation, 1, due);
            tryModes(organisation, 5, due);
        }
    }

    private static void writesInOtherModes() {
        DUE.by("ACTS, \"act 2 for modes 1, 3, of relative and indexed ones 2 as well: 48\"");
        tryModes(0, 2, new int[] {48, 0, 48, 0});
        tryModes(1, 2, new int[] {48, 0, 0, 0});
        tryModes(2, 2, new int[] {48, 0, 0, 0});
    }

    private static void rewritesAndDeletesInOtherModes() {
        DUE.by("ACTS, \"acts 3, 4 for mode 2: 49\"");
        int[] due = {49, 49, 0, 49};
        tryModes(0, 3, due);
        for (int organisation = 1; organisation <= 2; organisation++) {
            tryModes(organisation, 3, due);
            tryModes(organisation, 4, due);
        }
    }

    private static void rewriteWithoutAPermit() {
        DUE.by("ACTS, \"act 3 of a sequential file without a permit: 43\"");
        FileStatus file = Files.opened(0, 2);
        DUE.is("nothing was read: " + call(3, 0), file.act(3, 0), 43);
        file.act(0, 0);
        DUE.is("read: " + call(3, 0), file.act(3, 0), 0);
        DUE.is("rewritten already: " + call(3, 0), file.act(3, 0), 43);
        for (int kind = 1; kind <= 6; kind++) {
            file.act(0, 0);
            file.act(kind, 5);
            DUE.is("read, then act " + kind + ": " + call(3, 0), file.act(3, 0), 43);
        }
        DUE.is("relative: " + call(3, 0), Files.opened(1, 2).act(3, 0), 0);
        DUE.is("indexed: " + call(3, 0), Files.opened(2, 2).act(3, 0), 0);
    }

    private static void permitByZeroTwoAndFourAlone() {
        DUE.by("PERMIT, \"whether the latest act was a read that gave a record (0, 2, 4)\"");
        DUE.is("new: count(2)", new FileStatus(2).count(2), 0);
        for (int kind = 0; kind <= 6; kind++) {
            for (int outcome = 0; outcome <= 9; outcome++) {
                // By these outcomes a read of an indexed file answers 0, 2 and 4.
                boolean gave = kind <= 1 && (outcome == 0 || outcome == 2 || outcome == 7);
                FileStatus file = Files.opened(2, 2);
                file.act(kind, outcome);
                DUE.is(call(kind, outcome) + ", then count(2)", file.count(2), gave ? 1 : 0);
                FileStatus read = Files.opened(2, 2);
                read.act(0, 0);
                read.act(kind, outcome);
                DUE.is("read, " + call(kind, outcome) + ", then count(2)", read.count(2), gave ? 1 : 0);
            }
        }
    }

    private static void readNextAtTheEndOrLost() {
        DUE.by("ACTS, \"act 0 with a position at the end or lost: 46\"");
        DUE.is("ahead of all: " + call(0, 0), Files.opened(1, 0).act(0, 0), 0);
        FileStatus file = Files.opened(1, 0);
        file.act(0, 0);
        DUE.is("somewhere: " + call(0, 0), file.act(0, 0), 0);
        file.act(0, 1);
        DUE.is("at the end: " + call(0, 0), file.act(0, 0), 46);
        DUE.is("lost by 46: " + call(0, 0), file.act(0, 0), 46);
        file.act(5, 0);
        file.act(0, 4);
        DUE.is("lost by 14: " + call(0, 0), file.act(0, 0), 46);
        file.act(1, 0);
        file.act(1, 1);
        DUE.is("lost by 23: " + call(0, 0), file.act(0, 0), 46);
        DUE.is("lost: read by key", file.act(1, 0), 0);
        file.act(0, 1);
        DUE.is("at the end: start", file.act(5, 0), 0);
    }

    private static void closedIsFirst() {
        DUE.by("ACTS, \"what is first here is the status\", 42 ahead of all others");
        DUE.is("ahead of 90: " + call(1, 0), new FileStatus(0).act(1, 0), 42);
        FileStatus output = new FileStatus(2);
        output.mode(1);
        DUE.is("ahead of 47: " + call(0, 0), output.act(0, 0), 42);
        DUE.is("ahead of 48: " + call(2, 0), new FileStatus(2).act(2, 0), 42);
        DUE.is("ahead of 49: " + call(4, 0), new FileStatus(2).act(4, 0), 42);
        FileStatus both = new FileStatus(0);
        both.mode(2);
        DUE.is("ahead of 43: " + call(3, 0), both.act(3, 0), 42);
        FileStatus lost = Files.opened(0, 0);
        lost.act(0, 1);
        lost.act(0, 0);
        lost.act(6, 0);
        DUE.is("ahead of 46: " + call(0, 0), lost.act(0, 0), 42);
        DUE.is("ahead of outcomes: " + call(6, 5), new FileStatus(0).act(6, 5), 42);
        DUE.is("ahead of what isn't told: " + call(6, 9), new FileStatus(0).act(6, 9), 42);
    }

    private static void actsNoSequentialFileHasAreSecond() {
        DUE.by("ACTS, \"what is first here is the status\", 90 of a sequential file ahead of the mode");
        for (int mode = 0; mode <= 3; mode++) {
            for (int kind : new int[] {1, 4, 5}) {
                DUE.is("mode " + mode + ": " + call(kind, 0), Files.opened(0, mode).act(kind, 0), 90);
                DUE.is("mode " + mode + ": " + call(kind, 5), Files.opened(0, mode).act(kind, 5), 90);
            }
        }
    }

    private static void theModeIsThird() {
        DUE.by("ACTS, \"what is first here is the status\", the mode ahead of the permit");
        for (int mode : new int[] {0, 1, 3}) {
            DUE.is("mode " + mode + ": " + call(3, 0), Files.opened(0, mode).act(3, 0), 49);
        }
    }

    private static void checksGoAheadOfOutcomes() {
        DUE.by("ACTS, \"then by the outcome\", after the checks");
        for (int outcome = -1; outcome <= 9; outcome++) {
            FileStatus lost = Files.opened(2, 0);
            lost.act(5, 1);
            DUE.is("lost: " + call(0, outcome), lost.act(0, outcome), 46);
            DUE.is("no permit: " + call(3, outcome), Files.opened(0, 2).act(3, outcome), 43);
            DUE.is("for output: " + call(0, outcome), Files.opened(2, 1).act(0, outcome), 47);
            DUE.is("for input: " + call(2, outcome), Files.opened(2, 0).act(2, outcome), 48);
            DUE.is("to extend: " + call(4, outcome), Files.opened(2, 3).act(4, outcome), 49);
        }
    }

    /** Asks the outcomes that an act has no status for, of a file open for both that has just been read. */
    private static void tryNotTold(int organisation, int kind, int[] outcomes) {
        for (int outcome : outcomes) {
            FileStatus file = Files.opened(organisation, 2);
            file.act(0, 0);
            DUE.is(organisation + ": " + call(kind, outcome), file.act(kind, outcome), 90);
        }
    }

    private static void whatIsNotTold() {
        DUE.by("ACTS, \"what isn't told here: 90\"");
        tryNotTold(0, 0, new int[] {2, 3, 4, 8});
        tryNotTold(0, 3, new int[] {1, 2, 3, 4, 8});
        tryNotTold(0, 6, new int[] {1, 2, 3, 4, 6, 7, 8});
        tryNotTold(1, 0, new int[] {2, 3, 8});
        tryNotTold(1, 1, new int[] {2, 3, 4, 8});
        tryNotTold(1, 2, new int[] {1, 2, 8});
        tryNotTold(1, 3, new int[] {2, 3, 4, 8});
        tryNotTold(1, 4, new int[] {2, 3, 4, 7, 8});
        tryNotTold(1, 5, new int[] {2, 3, 4, 7, 8});
        tryNotTold(1, 6, new int[] {1, 2, 3, 4, 6, 7, 8});
        tryNotTold(2, 0, new int[] {3, 4, 8});
        tryNotTold(2, 1, new int[] {3, 4, 8});
        tryNotTold(2, 2, new int[] {1});
        tryNotTold(2, 3, new int[] {4});
        tryNotTold(2, 4, new int[] {2, 3, 4, 7, 8});
        tryNotTold(2, 5, new int[] {2, 3, 4, 7, 8});
        tryNotTold(2, 6, new int[] {1, 2, 3, 4, 6, 7, 8});
        for (int outcome : new int[] {1, 2, 3, 8}) {
            DUE.is("0: " + call(2, outcome), Files.opened(0, 1).act(2, outcome), 90);
        }
    }

    private static void closingThatFails() {
        DUE.by("WHAT A STATUS DOES, \"30 and 90 in closing leave it open\"");
        for (int organisation = 0; organisation <= 2; organisation++) {
            for (int mode = 0; mode <= 3; mode++) {
                for (int outcome = -1; outcome <= 9; outcome++) {
                    FileStatus file = Files.opened(organisation, mode);
                    int status = file.act(6, outcome);
                    boolean isClosed = outcome == 0;
                    DUE.is(call(6, outcome), status, isClosed ? 0 : outcome == 5 ? 30 : 90);
                    DUE.is("by " + status + ": count(0)", file.count(0), isClosed ? FileStatus.NONE : mode);
                    DUE.is("by " + status + ": open(0)", file.open(0), isClosed ? 0 : 41);
                }
            }
        }
    }

    private static void whatAStatusDoesNot() {
        DUE.by("WHAT A STATUS DOES, \"else nothing\"");
        for (int kind : new int[] {2, 3, 4, 6}) {
            for (int outcome = 0; outcome <= 9; outcome++) {
                FileStatus ahead = Files.opened(2, 2);
                ahead.act(kind, outcome);
                DUE.is("ahead of all: " + call(kind, outcome), ahead.count(1), 0);
                FileStatus end = Files.opened(2, 2);
                end.act(0, 1);
                end.act(kind, outcome);
                DUE.is("at the end: " + call(kind, outcome), end.count(1), 2);
            }
        }
        for (int kind : new int[] {0, 1, 5}) {
            for (int outcome : new int[] {3, 5, 6, 8, 9}) {
                FileStatus ahead = Files.opened(2, 2);
                ahead.act(kind, outcome);
                DUE.is("ahead of all: " + call(kind, outcome), ahead.count(1), 0);
            }
        }
    }
}
