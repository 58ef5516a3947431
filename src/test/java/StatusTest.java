/** Promises 5, 8, 10, 11 and 12: exception, position, both, extended, area. */
public final class StatusTest {
    private static final Due DUE = new Due();

    public static void main(String[] args) {
        DUE.by("Promise 5");
        everyException();
        DUE.by("Promise 8");
        everyPosition();
        positionIsNotWhereItIsNow();
        DUE.by("Promise 10");
        twoStatusesAtATime();
        twoOfWhichOneIsNone();
        DUE.by("Promise 11");
        everyExtended();
        extendedTellsOrganisationAndAct();
        DUE.by("Promise 12");
        everyArea();
        DUE.by("Promises 5, 8, 10, 11 and 12");
        askingChangesNothing();
        DUE.end();
    }

    private static void everyException() {
        FileStatus file = new FileStatus(2);
        for (int status = 0; status <= 99; status++) {
            DUE.is("exception(" + status + ")", file.exception(status), Tables.kindOf(status));
        }
        for (int status : Files.outside(0, 99)) {
            DUE.is("exception(" + status + ")", file.exception(status), FileStatus.NONE);
        }
        DUE.is("NONE", FileStatus.NONE, -1);
    }

    private static void everyPosition() {
        FileStatus file = new FileStatus(2);
        for (int status = 0; status <= 99; status++) {
            DUE.is("position(" + status + ")", file.position(status), Tables.placeAfter(status, 0));
        }
        for (int status : Files.outside(0, 99)) {
            DUE.is("position(" + status + ")", file.position(status), FileStatus.NONE);
        }
    }

    private static void positionIsNotWhereItIsNow() {
        FileStatus lost = Files.opened(1, 0);
        lost.act(1, 1);
        DUE.is("0 is 'as it is', wherever it is", lost.position(30), 0);
        DUE.is("lost: position(0)", lost.position(0), 1);
        DUE.is("asking moves nothing", lost.count(1), 3);
    }

    private static void twoStatusesAtATime() {
        FileStatus file = new FileStatus(0);
        for (int a = 0; a <= 99; a++) {
            for (int b = a; b <= 99; b++) {
                // Kinds never fall as the number grows, so only equal kinds let the lesser one win.
                int due = Tables.kindOf(a) == Tables.kindOf(b) ? a : b;
                DUE.is("both(" + a + ", " + b + ")", file.both(a, b), due);
                DUE.is("both(" + b + ", " + a + ")", file.both(b, a), due);
            }
        }
    }

    private static void twoOfWhichOneIsNone() {
        FileStatus file = new FileStatus(0);
        for (int none : Files.outside(0, 99)) {
            DUE.is("both(" + none + ", 0)", file.both(none, 0), FileStatus.NONE);
            DUE.is("both(0, " + none + ")", file.both(0, none), FileStatus.NONE);
            DUE.is("both(99, " + none + ")", file.both(99, none), FileStatus.NONE);
            DUE.is("both of " + none, file.both(none, none), FileStatus.NONE);
        }
    }

    private static void everyExtended() {
        FileStatus file = new FileStatus(2);
        for (int status = 0; status <= 99; status++) {
            DUE.is("extended(" + status + ")", file.extended(status), 100 * status + 29);
        }
        for (int status : Files.outside(0, 99)) {
            DUE.is("extended(" + status + ")", file.extended(status), FileStatus.NONE);
        }
    }

    private static void extendedTellsOrganisationAndAct() {
        for (int organisation = 0; organisation <= 2; organisation++) {
            FileStatus file = new FileStatus(organisation);
            int base = 2300 + 10 * organisation;
            DUE.is("ahead of all", file.extended(23), base + 9);
            file.act(7, 0);
            DUE.is("an act that is none is not the latest", file.extended(23), base + 9);
            file.act(4, 0);
            DUE.is("an act of a closed file", file.extended(23), base + 4);
            file.open(3);
            DUE.is("an opening that failed", file.extended(23), base + 7);
            file.open(0);
            for (int kind = 0; kind <= 6; kind++) {
                file.act(kind, 0);
                DUE.is("act " + kind, file.extended(23), base + kind);
            }
            file.mode(1);
            file.optional(true);
            file.declarative(1, true);
            DUE.is("what is no act leaves it", file.extended(23), base + 6);
        }
    }

    private static void everyArea() {
        FileStatus file = new FileStatus(2);
        for (int status = 0; status <= 99; status++) {
            DUE.is("area(" + status + ")", file.area(status), Tables.area(status));
        }
        for (int status : Files.outside(0, 99)) {
            DUE.is("area(" + status + ")", file.area(status), FileStatus.NONE);
        }
    }

    private static void askingChangesNothing() {
        FileStatus file = Files.opened(0, 2);
        file.act(0, 0);
        String before = Files.state(file);
        for (int status : new int[] {0, 10, 23, 46, 90, 100}) {
            file.exception(status);
            file.position(status);
            file.both(status, 99);
            file.extended(status);
            file.area(status);
        }
        DUE.is("the state is as before", before.equals(Files.state(file)) ? 1 : 0, 1);
    }
}
