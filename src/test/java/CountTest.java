/** Promise 13: count. */
public final class CountTest {
    private static final Due DUE = new Due();

    public static void main(String[] args) {
        DUE.by("Promise 13");
        actsAreCountedByTheirStatus();
        openingsThatSucceedAreNotCounted();
        whatIsRefusedIsNotCounted();
        countsOfAllAlongARun();
        whatIsNotToldIsNone();
        DUE.end();
    }

    private static void actsAreCountedByTheirStatus() {
        FileStatus file = Files.opened(2, 2);
        int[] kinds = {0, 0, 1, 2, 6, 0, 4, 6};
        int[] outcomes = {0, 2, 7, 2, 5, 1, 1, 0};
        int[] good = {1, 2, 3, 4, 4, 4, 4, 5};
        int[] bad = {0, 0, 0, 0, 1, 2, 3, 3};
        for (int i = 0; i < kinds.length; i++) {
            file.act(kinds[i], outcomes[i]);
            DUE.is("step " + i + ": count(4)", file.count(4), good[i]);
            DUE.is("step " + i + ": count(5)", file.count(5), bad[i]);
        }
    }

    private static void openingsThatSucceedAreNotCounted() {
        FileStatus file = new FileStatus(0);
        file.optional(true);
        file.open(1);
        DUE.is("by 5: count(4)", file.count(4), 0);
        DUE.is("by 5: count(5)", file.count(5), 0);
        file.open(0);
        DUE.is("by 41: count(5)", file.count(5), 1);
        file.act(6, 0);
        file.open(2);
        DUE.is("by 37: count(4)", file.count(4), 1);
        DUE.is("by 37: count(5)", file.count(5), 2);
    }

    private static void whatIsRefusedIsNotCounted() {
        FileStatus file = Files.opened(0, 0);
        String before = Files.state(file);
        file.act(7, 0);
        file.act(-1, 0);
        file.mode(1);
        file.optional(true);
        file.declarative(0, true);
        DUE.is("refused calls change nothing", before.equals(Files.state(file)) ? 1 : 0, 1);
    }

    private static void countsOfAllAlongARun() {
        FileStatus file = new FileStatus(1);
        file.mode(2);
        tell("mode chosen", file, FileStatus.NONE, 0, 0, 0);
        file.open(0);
        tell("opened", file, 2, 0, 0, 0);
        file.act(0, 7);
        tell("read in part", file, 2, 1, 1, 4);
        file.act(2, 3);
        tell("a double was barred", file, 2, 1, 0, 22);
        file.act(0, 1);
        tell("read to the end", file, 2, 2, 0, 10);
        file.act(0, 0);
        tell("read past the end", file, 2, 3, 0, 46);
        file.act(1, 0);
        tell("read by key", file, 2, 1, 1, 0);
        file.act(6, 0);
        tell("closed", file, FileStatus.NONE, 1, 0, 0);
        DUE.is("count(6)", file.count(6), 1);
    }

    private static void tell(String when, FileStatus file, int mode, int place, int permit, int status) {
        DUE.is(when + ": count(0)", file.count(0), mode);
        DUE.is(when + ": count(1)", file.count(1), place);
        DUE.is(when + ": count(2)", file.count(2), permit);
        DUE.is(when + ": count(3)", file.count(3), status);
    }

    private static void whatIsNotToldIsNone() {
        FileStatus file = Files.opened(2, 2);
        for (int what : new int[] {-1, 7, 8, Integer.MIN_VALUE, Integer.MAX_VALUE}) {
            DUE.is("count(" + what + ")", file.count(what), FileStatus.NONE);
        }
    }
}
