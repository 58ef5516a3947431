/** Promises 1, 2 and 5 to 13: each sentence that names a boundary case, by itself. */
public final class EdgesTest {
    private static final Due DUE = new Due();

    public static void main(String[] args) {
        organisationsOutsideAreHeld();
        aNewFileHasNothing();
        modeOfAnOpenFile();
        modeOfWrongNumber();
        exceptionOfNoStatus();
        exceptionOfFirstAndLastOfEachDigit();
        phraseOfKindsOneAndTwoAlone();
        runEndsOrGoesOn();
        declarativeOfWrongKind();
        positionOfNoStatus();
        optionalOfAnOpenFile();
        bothOfNoStatus();
        bothOfEqualKinds();
        extendedOfNoStatus();
        extendedAheadOfAll();
        areaOfNoStatus();
        countOfModeWhenClosed();
        countOfActsAtNineAndTen();
        countOfOthers();
        theLastOfAllCalls();
        DUE.end();
    }

    private static void organisationsOutsideAreHeld() {
        DUE.by("Promise 1, \"numbers outside are held to these\"");
        for (int organisation : Files.outside(0, 2)) {
            int held = organisation < 0 ? 0 : 2;
            String made = "new FileStatus(" + organisation + ")";
            DUE.is(made + " count(6)", new FileStatus(organisation).count(6), held);
            DUE.is(made + " extended(0)", new FileStatus(organisation).extended(0), 10 * held + 9);
            // Doubles are told of indexed files alone, and a start is refused to sequential ones alone.
            DUE.is(made + " act(0, 2)", Files.opened(organisation, 0).act(0, 2), held == 2 ? 2 : 90);
            DUE.is(made + " act(5, 0)", Files.opened(organisation, 0).act(5, 0), held == 2 ? 0 : 90);
        }
        for (int organisation = 0; organisation <= 2; organisation++) {
            DUE.is("new FileStatus(" + organisation + ")", new FileStatus(organisation).count(6), organisation);
        }
    }

    private static void aNewFileHasNothing() {
        DUE.by("Promise 1, \"mode 0, not optional; no phrase, no declaratives; latest status 0\"");
        for (int organisation = 0; organisation <= 2; organisation++) {
            FileStatus file = new FileStatus(organisation);
            DUE.is("count(0)", file.count(0), FileStatus.NONE);
            DUE.is("count(3)", file.count(3), 0);
            DUE.is("phrase(true)", file.phrase(true), 0);
            DUE.is("phrase(false)", file.phrase(false), 0);
            DUE.is("mode(0)", file.mode(0), 0);
            DUE.is("optional(false)", file.optional(false), 0);
            for (int kind = 1; kind <= 6; kind++) {
                DUE.is("declarative(" + kind + ", false)", file.declarative(kind, false), 0);
            }
            DUE.is("open(1) when nothing was told", new FileStatus(organisation).open(1), 35);
        }
    }

    private static void modeOfAnOpenFile() {
        DUE.by("Promise 2, \"-5 when it is open\"");
        for (int chosen = 0; chosen <= 3; chosen++) {
            FileStatus file = Files.opened(0, chosen);
            for (int m = 0; m <= 3; m++) {
                DUE.is("open: mode(" + m + ")", file.mode(m), -5);
            }
            for (int m : Files.outside(0, 3)) {
                DUE.is("open: mode(" + m + ")", file.mode(m), -5);
            }
            DUE.is("the mode is as it was", file.count(0), chosen);
            file.act(6, 0);
            DUE.is("closed: mode(0)", file.mode(0), chosen);
        }
        DUE.is("open by 5: mode(1)", Files.openedMissing(0, 0).mode(1), -5);
        FileStatus refused = new FileStatus(0);
        refused.open(2);
        DUE.is("not opened: mode(1)", refused.mode(1), 0);
    }

    private static void modeOfWrongNumber() {
        DUE.by("Promise 2, \"else -4\"");
        for (int chosen = 0; chosen <= 3; chosen++) {
            FileStatus file = new FileStatus(0);
            file.mode(chosen);
            for (int m : Files.outside(0, 3)) {
                DUE.is("mode(" + m + ")", file.mode(m), -4);
            }
            DUE.is("mode(3) after those", file.mode(3), chosen);
            DUE.is("mode(0) after 3", file.mode(0), 3);
        }
    }

    private static void exceptionOfNoStatus() {
        DUE.by("Promise 5, \"NONE when it is not 0 .. 99\"");
        FileStatus file = new FileStatus(0);
        for (int status : Files.outside(0, 99)) {
            DUE.is("exception(" + status + ")", file.exception(status), FileStatus.NONE);
        }
        DUE.is("exception(0)", file.exception(0), 0);
        DUE.is("exception(99)", file.exception(99), 6);
    }

    private static void exceptionOfFirstAndLastOfEachDigit() {
        DUE.by("Promise 5, \"its first digit .. 5 and 6 sharing (5), others 6\"");
        FileStatus file = new FileStatus(0);
        int[] kinds = {0, 1, 2, 3, 4, 5, 5, 6, 6, 6};
        for (int digit = 0; digit <= 9; digit++) {
            DUE.is("exception(" + digit + "0)", file.exception(10 * digit), kinds[digit]);
            DUE.is("exception(" + digit + "9)", file.exception(10 * digit + 9), kinds[digit]);
        }
    }

    private static void phraseOfKindsOneAndTwoAlone() {
        DUE.by("Promise 6, \"the phrase (kinds 1 and 2 alone)\"");
        for (int kind = 0; kind <= 6; kind++) {
            boolean isForPhrase = kind == 1 || kind == 2;
            FileStatus file = Files.withLatestKind(kind);
            DUE.is("kind " + kind + ": phrase(true)", file.phrase(true) == 1 ? 1 : 0, isForPhrase ? 1 : 0);
            DUE.is("kind " + kind + ": phrase(false)", file.phrase(false) == 1 ? 1 : 0, 0);
        }
    }

    private static void runEndsOrGoesOn() {
        DUE.by("Promise 6, \"no one is there: the run ends (kinds 3 to 6), or 4 it goes on (kinds 1, 2)\"");
        int[] due = {0, 4, 4, 3, 3, 3, 3};
        for (int kind = 0; kind <= 6; kind++) {
            FileStatus file = Files.withLatestKind(kind);
            DUE.is("kind " + kind + ": phrase(false)", file.phrase(false), due[kind]);
        }
    }

    private static void declarativeOfWrongKind() {
        DUE.by("Promise 7, a kind outside 1 .. 6: \"-4\"");
        for (int latest = 3; latest <= 6; latest++) {
            FileStatus file = Files.withLatestKind(latest);
            for (int kind : Files.outside(1, 6)) {
                DUE.is("declarative(" + kind + ", true)", file.declarative(kind, true), -4);
                DUE.is("declarative(" + kind + ", false)", file.declarative(kind, false), -4);
            }
            // These are a right kind to a shift, which takes an int's lowest five bits alone.
            DUE.is("declarative(32 + kind, true)", file.declarative(32 + latest, true), -4);
            DUE.is("declarative(kind - 32, true)", file.declarative(latest - 32, true), -4);
            DUE.is("none is there after those", file.phrase(false), 3);
        }
        FileStatus file = new FileStatus(0);
        for (int kind = 1; kind <= 6; kind++) {
            DUE.is("declarative(" + kind + ", true)", file.declarative(kind, true), 0);
            DUE.is("declarative(" + kind + ", true) again", file.declarative(kind, true), 1);
        }
    }

    private static void positionOfNoStatus() {
        DUE.by("Promise 8, \"NONE when it is not 0 .. 99\"");
        FileStatus file = new FileStatus(0);
        for (int status : Files.outside(0, 99)) {
            DUE.is("position(" + status + ")", file.position(status), FileStatus.NONE);
        }
        DUE.is("position(0)", file.position(0), 1);
        DUE.is("position(99)", file.position(99), 0);
    }

    private static void optionalOfAnOpenFile() {
        DUE.by("Promise 9, \"-5 when it is open\"");
        FileStatus file = new FileStatus(0);
        file.open(0);
        DUE.is("open: optional(true)", file.optional(true), -5);
        DUE.is("open: optional(false)", file.optional(false), -5);
        file.optional(true);
        file.act(6, 5);
        DUE.is("closing failed: optional(true)", file.optional(true), -5);
        file.act(6, 0);
        DUE.is("closed: it is not optional still", file.open(1), 35);
        DUE.is("not opened: optional(true)", file.optional(true), 0);
        file.open(1);
        DUE.is("open by 5: optional(false)", file.optional(false), -5);
        file.act(6, 0);
        DUE.is("closed: it is optional still", file.optional(false), 1);
    }

    private static void bothOfNoStatus() {
        DUE.by("Promise 10, \"NONE when one is not 0 .. 99\"");
        FileStatus file = new FileStatus(0);
        for (int none : Files.outside(0, 99)) {
            for (int status : new int[] {0, 50, 99, none}) {
                DUE.is("both(" + none + ", " + status + ")", file.both(none, status), FileStatus.NONE);
                DUE.is("both(" + status + ", " + none + ")", file.both(status, none), FileStatus.NONE);
            }
        }
        DUE.is("both(0, 99)", file.both(0, 99), 99);
        DUE.is("both(99, 0)", file.both(99, 0), 99);
    }

    private static void bothOfEqualKinds() {
        DUE.by("Promise 10, \"of equal ones the lesser number\"");
        FileStatus file = new FileStatus(0);
        int[] lesser = {0, 10, 20, 30, 40, 50, 59, 70, 89, 99};
        int[] greater = {9, 19, 29, 39, 49, 69, 60, 99, 90, 99};
        for (int i = 0; i < lesser.length; i++) {
            String two = lesser[i] + ", " + greater[i];
            DUE.is("both of " + two, file.both(lesser[i], greater[i]), lesser[i]);
            DUE.is("both of " + two + ", turned", file.both(greater[i], lesser[i]), lesser[i]);
        }
    }

    private static void extendedOfNoStatus() {
        DUE.by("Promise 11, \"NONE when it is not 0 .. 99\"");
        FileStatus file = Files.opened(1, 0);
        for (int status : Files.outside(0, 99)) {
            DUE.is("extended(" + status + ")", file.extended(status), FileStatus.NONE);
        }
        DUE.is("extended(0)", file.extended(0), 17);
        DUE.is("extended(99)", file.extended(99), 9917);
    }

    private static void extendedAheadOfAll() {
        DUE.by("Promise 11, \"7 for opening, 9 ahead of all\"");
        FileStatus file = new FileStatus(2);
        file.mode(1);
        file.optional(true);
        file.declarative(1, true);
        file.act(7, 0);
        DUE.is("extended(0) ahead of all", file.extended(0), 29);
        file.open(2);
        DUE.is("extended(0) after an opening that failed", file.extended(0), 27);
        file.act(0, 0);
        DUE.is("extended(0) after a read of a closed file", file.extended(0), 20);
        file.open(0);
        file.open(0);
        DUE.is("extended(0) after an opening by 41", file.extended(0), 27);
        file.act(6, 0);
        DUE.is("extended(0) after closing", file.extended(0), 26);
    }

    private static void areaOfNoStatus() {
        DUE.by("Promise 12, \"NONE when it is not 0 .. 99\"");
        FileStatus file = new FileStatus(0);
        for (int status : Files.outside(0, 99)) {
            DUE.is("area(" + status + ")", file.area(status), FileStatus.NONE);
        }
        DUE.is("area(0)", file.area(0), 1);
        DUE.is("area(99)", file.area(99), 0);
    }

    private static void countOfModeWhenClosed() {
        DUE.by("Promise 13, \"NONE closed\"");
        for (int mode = 0; mode <= 3; mode++) {
            FileStatus file = new FileStatus(0);
            DUE.is("new: count(0)", file.count(0), FileStatus.NONE);
            file.mode(mode);
            DUE.is("mode chosen: count(0)", file.count(0), FileStatus.NONE);
            file.open(3);
            DUE.is("not opened: count(0)", file.count(0), FileStatus.NONE);
            file.open(0);
            DUE.is("opened: count(0)", file.count(0), mode);
            file.act(6, 0);
            DUE.is("closed: count(0)", file.count(0), FileStatus.NONE);
        }
    }

    private static void countOfActsAtNineAndTen() {
        DUE.by("Promise 13, \"acts that answered 0 .. 9, 5 acts and openings that didn't\"");
        // 4 is the greatest status of an act within 0 .. 9, and 10 the least above.
        FileStatus file = Files.opened(0, 0);
        file.act(0, 7);
        DUE.is("after 4: count(4)", file.count(4), 1);
        DUE.is("after 4: count(5)", file.count(5), 0);
        file.act(0, 1);
        DUE.is("after 10: count(4)", file.count(4), 1);
        DUE.is("after 10: count(5)", file.count(5), 1);
        FileStatus missing = Files.openedMissing(0, 0);
        DUE.is("opening by 5: count(4)", missing.count(4), 0);
        DUE.is("opening by 5: count(5)", missing.count(5), 0);
        missing.open(0);
        DUE.is("opening by 41: count(4)", missing.count(4), 0);
        DUE.is("opening by 41: count(5)", missing.count(5), 1);
    }

    private static void countOfOthers() {
        DUE.by("Promise 13, \"NONE for others\"");
        FileStatus closed = new FileStatus(2);
        FileStatus open = Files.opened(2, 2);
        for (int what : Files.outside(0, 6)) {
            DUE.is("closed: count(" + what + ")", closed.count(what), FileStatus.NONE);
            DUE.is("open: count(" + what + ")", open.count(what), FileStatus.NONE);
        }
        DUE.is("count(0)", open.count(0), 2);
        DUE.is("count(6)", open.count(6), 2);
    }

    private static void theLastOfAllCalls() {
        DUE.by("What it is, \"at most 512 calls after it has been made\"");
        FileStatus reads = new FileStatus(0);
        reads.open(0);
        for (int i = 2; i < 512; i++) {
            reads.act(0, 0);
        }
        DUE.is("call 512 after 510 reads: count(4)", reads.count(4), 510);
        FileStatus openings = new FileStatus(0);
        for (int i = 1; i < 512; i++) {
            openings.open(1);
        }
        DUE.is("call 512 after 511 openings by 35: count(5)", openings.count(5), 511);
    }
}
