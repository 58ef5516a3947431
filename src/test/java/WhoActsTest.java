/** Promises 6 and 7: phrase, declarative. */
public final class WhoActsTest {
    private static final Due DUE = new Due();

    public static void main(String[] args) {
        DUE.by("Promise 6");
        everyKindWithAndWithoutDeclarative();
        aDeclarativeIsForItsKindAlone();
        theLatestStatusIsMeant();
        DUE.by("Promise 7");
        declarativeAnswersWhatItWas();
        wrongKindsAreRefused();
        DUE.end();
    }

    private static FileStatus withLatestKind(int kind) {
        FileStatus file = Files.withLatestKind(kind);
        DUE.is("the latest status is of kind " + kind, file.exception(file.count(3)), kind);
        return file;
    }

    private static void everyKindWithAndWithoutDeclarative() {
        int[] withPhrase = {0, 1, 1, 3, 3, 3, 3};
        int[] withoutPhrase = {0, 4, 4, 3, 3, 3, 3};
        int[] withBoth = {0, 1, 1, 2, 2, 2, 2};
        int[] withDeclarative = {0, 2, 2, 2, 2, 2, 2};
        for (int kind = 0; kind <= 6; kind++) {
            FileStatus file = withLatestKind(kind);
            DUE.is(kind + ": phrase(true)", file.phrase(true), withPhrase[kind]);
            DUE.is(kind + ": phrase(false)", file.phrase(false), withoutPhrase[kind]);
            for (int each = 1; each <= 6; each++) {
                file.declarative(each, true);
            }
            DUE.is(kind + ": declared: phrase(true)", file.phrase(true), withBoth[kind]);
            DUE.is(kind + ": declared: phrase(false)", file.phrase(false), withDeclarative[kind]);
        }
    }

    private static void aDeclarativeIsForItsKindAlone() {
        for (int kind = 1; kind <= 6; kind++) {
            for (int declared = 1; declared <= 6; declared++) {
                FileStatus file = withLatestKind(kind);
                file.declarative(declared, true);
                int due = declared == kind ? 2 : kind <= 2 ? 4 : 3;
                DUE.is(kind + ": declared for " + declared, file.phrase(false), due);
                file.declarative(declared, false);
                DUE.is(kind + ": no more for " + declared, file.phrase(false), kind <= 2 ? 4 : 3);
            }
        }
    }

    private static void theLatestStatusIsMeant() {
        FileStatus file = new FileStatus(0);
        file.open(1);
        DUE.is("opening failed", file.phrase(true), 3);
        file.open(6);
        file.declarative(5, true);
        DUE.is("opening by 61 is of kind 5", file.phrase(true), 2);
        file.open(0);
        DUE.is("opening succeeded", file.phrase(true), 0);
        file.act(0, 1);
        file.act(7, 0);
        DUE.is("an act that is none leaves it", file.phrase(true), 1);
        FileStatus missing = Files.openedMissing(0, 0);
        DUE.is("opening by 5 is of kind 0", missing.phrase(true), 0);
    }

    private static void declarativeAnswersWhatItWas() {
        FileStatus file = new FileStatus(0);
        for (int kind = 1; kind <= 6; kind++) {
            DUE.is("declarative(" + kind + ", false)", file.declarative(kind, false), 0);
            DUE.is("declarative(" + kind + ", true)", file.declarative(kind, true), 0);
            DUE.is("declarative(" + kind + ", true) again", file.declarative(kind, true), 1);
        }
        file.open(0);
        for (int kind = 1; kind <= 6; kind++) {
            DUE.is("open: declarative(" + kind + ", false)", file.declarative(kind, false), 1);
            DUE.is("open: declarative(" + kind + ", false) again", file.declarative(kind, false), 0);
        }
    }

    private static void wrongKindsAreRefused() {
        FileStatus file = withLatestKind(6);
        // 38 and -26 are 6 to a shift, which takes an int's lowest five bits alone.
        for (int kind : new int[] {0, 7, -1, 38, -26, Integer.MIN_VALUE, Integer.MAX_VALUE}) {
            DUE.is("declarative(" + kind + ", true)", file.declarative(kind, true), -4);
            DUE.is("declarative(" + kind + ", false)", file.declarative(kind, false), -4);
            file.declarative(kind, true);
        }
        DUE.is("none was declared", file.phrase(false), 3);
    }
}
