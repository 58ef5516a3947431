/** Promises 1, 2 and 9: a new object, mode, optional. */
public final class NewFileTest {
    private static final Due DUE = new Due();

    public static void main(String[] args) {
        DUE.by("Promise 1");
        aNewFileIsClosedAndBare();
        organisationsOutsideAreHeld();
        DUE.by("Promise 2");
        modeAnswersWhatItWas();
        wrongModesAreRefused();
        modeOfAnOpenFileIsRefused();
        DUE.by("Promise 9");
        optionalAnswersWhatItWas();
        optionalOfAnOpenFileIsRefused();
        DUE.end();
    }

    private static void aNewFileIsClosedAndBare() {
        FileStatus file = new FileStatus(1);
        int[] counts = {FileStatus.NONE, 0, 0, 0, 0, 0, 1};
        for (int what = 0; what < counts.length; what++) {
            DUE.is("new: count(" + what + ")", file.count(what), counts[what]);
        }
        DUE.is("new: phrase(true)", file.phrase(true), 0);
        DUE.is("new: phrase(false)", file.phrase(false), 0);
        DUE.is("new: extended(0)", file.extended(0), 19);
        DUE.is("new: mode(2)", file.mode(2), 0);
        DUE.is("new: optional(true)", file.optional(true), 0);
        for (int kind = 1; kind <= 6; kind++) {
            DUE.is("new: declarative(" + kind + ")", file.declarative(kind, true), 0);
        }
        DUE.is("new: act(6, 0)", new FileStatus(1).act(6, 0), 42);
    }

    private static void organisationsOutsideAreHeld() {
        int[] given = {Integer.MIN_VALUE, -1, 0, 1, 2, 3, Integer.MAX_VALUE};
        int[] held = {0, 0, 0, 1, 2, 2, 2};
        for (int i = 0; i < given.length; i++) {
            DUE.is("new FileStatus(" + given[i] + ")", new FileStatus(given[i]).count(6), held[i]);
        }
    }

    private static void modeAnswersWhatItWas() {
        FileStatus file = new FileStatus(0);
        int before = 0;
        for (int m : new int[] {3, 2, 1, 0, 0, 1, 1}) {
            DUE.is("mode(" + m + ")", file.mode(m), before);
            before = m;
        }
        DUE.is("a closed file has no mode", file.count(0), FileStatus.NONE);
        for (int m = 0; m <= 3; m++) {
            DUE.is("opened in mode " + m, Files.opened(0, m).count(0), m);
        }
    }

    private static void wrongModesAreRefused() {
        FileStatus file = new FileStatus(0);
        file.mode(2);
        for (int m : new int[] {-1, 4, 5, Integer.MIN_VALUE, Integer.MAX_VALUE}) {
            DUE.is("mode(" + m + ")", file.mode(m), -4);
        }
        DUE.is("mode after wrong ones", file.mode(0), 2);
    }

    private static void modeOfAnOpenFileIsRefused() {
        FileStatus file = Files.opened(0, 2);
        for (int m : new int[] {0, 1, 2, 3, 4, -1}) {
            DUE.is("open: mode(" + m + ")", file.mode(m), -5);
        }
        DUE.is("open: count(0)", file.count(0), 2);
        file.act(6, 5);
        DUE.is("closing failed: mode(1)", file.mode(1), -5);
        file.act(6, 0);
        DUE.is("closed: mode(1)", file.mode(1), 2);
    }

    private static void optionalAnswersWhatItWas() {
        FileStatus file = new FileStatus(2);
        DUE.is("optional(false)", file.optional(false), 0);
        DUE.is("optional(true)", file.optional(true), 0);
        DUE.is("optional(true) again", file.optional(true), 1);
        DUE.is("optional(false)", file.optional(false), 1);
        DUE.is("optional(false) again", file.optional(false), 0);
    }

    private static void optionalOfAnOpenFileIsRefused() {
        FileStatus file = Files.openedMissing(2, 0);
        DUE.is("open: optional(false)", file.optional(false), -5);
        DUE.is("open: optional(true)", file.optional(true), -5);
        file.act(6, 0);
        DUE.is("closed: optional(false)", file.optional(false), 1);
    }
}
