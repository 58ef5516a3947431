/** Promise 4: act, with its checks, its outcomes and what a status does. */
public final class ActTest {
    private static final Due DUE = new Due();

    private static final int[] OTHER_OUTCOMES = {-1, 9, 10, Integer.MIN_VALUE, Integer.MAX_VALUE};

    public static void main(String[] args) {
        DUE.by("Promise 4");
        everyActAnswers();
        actsOfAClosedFile();
        kindsThatAreNoneChangeNothing();
        rewriteOfASequentialFileNeedsAPermit();
        otherOrganisationsRewriteWithoutAPermit();
        readNextNeedsAPosition();
        closingThatFailsLeavesItOpen();
        checksGoInTheirOrder();
        DUE.end();
    }

    private static void everyActAnswers() {
        for (int organisation = 0; organisation <= 2; organisation++) {
            for (int mode = 0; mode <= 3; mode++) {
                for (int kind = 0; kind <= 6; kind++) {
                    for (int outcome = 0; outcome <= 8; outcome++) {
                        tryAct(organisation, mode, kind, outcome);
                    }
                    for (int outcome : OTHER_OUTCOMES) {
                        tryAct(organisation, mode, kind, outcome);
                    }
                }
            }
        }
    }

    private static void tryAct(int organisation, int mode, int kind, int outcome) {
        FileStatus file = Files.opened(organisation, mode);
        file.act(0, 0);
        int due = Tables.modeCheck(organisation, mode, kind);
        if (due == 0) {
            due = Tables.byOutcome(organisation, kind, outcome);
        }
        int placeDue = file.count(1);
        if (kind == 0 || kind == 1 || kind == 5) {
            placeDue = Tables.placeAfter(due, placeDue);
        }
        String call = organisation + "/" + mode + ": act(" + kind + ", " + outcome + ")";
        DUE.is(call, file.act(kind, outcome), due);
        DUE.is(call + " position", file.count(1), placeDue);
        DUE.is(call + " permit", file.count(2), kind <= 1 && due <= 4 ? 1 : 0);
        DUE.is(call + " latest status", file.count(3), due);
        DUE.is(call + " mode", file.count(0), kind == 6 && due == 0 ? FileStatus.NONE : mode);
        DUE.is(call + " latest act", file.extended(0), 10 * organisation + kind);
    }

    private static void actsOfAClosedFile() {
        for (int organisation = 0; organisation <= 2; organisation++) {
            FileStatus file = new FileStatus(organisation);
            for (int kind = 0; kind <= 6; kind++) {
                DUE.is(organisation + ": closed: act(" + kind + ", 0)", file.act(kind, 0), 42);
            }
            DUE.is("closed: position", file.count(1), 0);
            DUE.is("closed: mode", file.count(0), FileStatus.NONE);
        }
    }

    private static void kindsThatAreNoneChangeNothing() {
        FileStatus file = Files.opened(0, 2);
        file.act(3, 0);
        file.act(0, 0);
        String before = Files.state(file);
        for (int kind : new int[] {-1, 7, 8, 9, Integer.MIN_VALUE, Integer.MAX_VALUE}) {
            DUE.is("act(" + kind + ", 0)", file.act(kind, 0), -4);
            DUE.is("act(" + kind + ", 0) changes nothing", before.equals(Files.state(file)) ? 1 : 0, 1);
        }
        DUE.is("the permit is still there", file.act(3, 0), 0);
        DUE.is("closed: act(7, 0)", new FileStatus(0).act(7, 0), -4);
    }

    private static void rewriteOfASequentialFileNeedsAPermit() {
        FileStatus file = Files.opened(0, 2);
        for (int outcome = -1; outcome <= 9; outcome++) {
            DUE.is("no read: act(3, " + outcome + ")", file.act(3, outcome), 43);
        }
        for (int outcome : new int[] {0, 7}) {
            file.act(0, outcome);
            DUE.is("read by " + outcome + ", then rewrite", file.act(3, 0), 0);
            DUE.is("read by " + outcome + ", then rewrite twice", file.act(3, 0), 43);
        }
        for (int kind : new int[] {1, 2, 4, 5}) {
            file.act(0, 0);
            file.act(kind, 0);
            DUE.is("read, act " + kind + ", then rewrite", file.act(3, 0), 43);
        }
        file.act(0, 0);
        file.act(6, 5);
        DUE.is("read, failed closing, then rewrite", file.act(3, 0), 43);
        file.act(0, 0);
        file.act(6, 0);
        file.open(0);
        DUE.is("read, closing, opening, then rewrite", file.act(3, 0), 43);
        for (int outcome : new int[] {6, 5, 2, 1}) {
            file.act(0, 0);
            file.act(0, outcome);
            DUE.is("read that failed by " + outcome + ", then rewrite", file.act(3, 0), 43);
        }
    }

    private static void otherOrganisationsRewriteWithoutAPermit() {
        for (int organisation = 1; organisation <= 2; organisation++) {
            DUE.is(organisation + ": rewrite", Files.opened(organisation, 2).act(3, 0), 0);
        }
        FileStatus file = Files.opened(2, 2);
        for (int outcome : new int[] {0, 2, 7}) {
            file.act(1, outcome);
            DUE.is("read by key by " + outcome + " gives a permit", file.count(2), 1);
            file.act(5, 0);
            DUE.is("start gives none", file.count(2), 0);
        }
    }

    private static void readNextNeedsAPosition() {
        FileStatus file = Files.opened(1, 0);
        file.act(0, 1);
        for (int outcome = -1; outcome <= 9; outcome++) {
            DUE.is("at the end or lost: act(0, " + outcome + ")", file.act(0, outcome), 46);
            DUE.is("after 46: position", file.count(1), 3);
        }
        DUE.is("lost: read by key", file.act(1, 0), 0);
        DUE.is("found by key: read next", file.act(0, 0), 0);
        file.act(1, 1);
        DUE.is("none by key: read next", file.act(0, 0), 46);
        DUE.is("lost: start", file.act(5, 0), 0);
        DUE.is("started: read next", file.act(0, 0), 0);
        file.act(5, 1);
        DUE.is("start found none: read next", file.act(0, 0), 46);
        file.act(5, 6);
        DUE.is("a start that was locked moves nothing", file.act(0, 0), 46);
        file.act(5, 0);
        file.act(0, 4);
        DUE.is("no room for the number: read next", file.act(0, 0), 46);
        FileStatus both = Files.opened(1, 2);
        both.act(4, 1);
        DUE.is("a delete that found none moves nothing", both.act(0, 0), 0);
        both.act(3, 1);
        DUE.is("a rewrite that found none moves nothing", both.act(0, 0), 0);
        both.act(0, 1);
        both.act(2, 0);
        DUE.is("a write moves nothing", both.count(1), 2);
    }

    private static void closingThatFailsLeavesItOpen() {
        FileStatus file = Files.opened(2, 3);
        for (int outcome = 1; outcome <= 9; outcome++) {
            file.act(6, outcome);
            DUE.is("act(6, " + outcome + "): mode", file.count(0), 3);
        }
        DUE.is("closing", file.act(6, 0), 0);
        DUE.is("closing twice", file.act(6, 0), 42);
    }

    private static void checksGoInTheirOrder() {
        DUE.is("closed goes ahead of 90", new FileStatus(0).act(4, 0), 42);
        DUE.is("90 goes ahead of the mode", Files.opened(0, 1).act(1, 0), 90);
        DUE.is("the mode goes ahead of the permit", Files.opened(0, 0).act(3, 0), 49);
        FileStatus file = Files.opened(0, 0);
        file.act(0, 1);
        file.act(6, 0);
        DUE.is("closed goes ahead of the position", file.act(0, 0), 42);
    }
}
