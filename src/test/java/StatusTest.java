/** Promises 5, 8, 10, 11 and 12: exception, position, both, extended, area. */
public final class StatusTest {
    private static final Due DUE = new Due();

    private static final int[] KIND_OF_FIRST_DIGIT = {0, 1, 2, 3, 4, 5, 5, 6, 6, 6};

    public static void main(String[] args) {
        everyStatusAnswers();
        numbersThatAreNoStatus();
        twoStatusesAtATime();
        extendedTellsOrganisationAndAct();
        askingChangesNothing();
        DUE.end();
    }

    private static void everyStatusAnswers() {
        FileStatus file = new FileStatus(2);
        for (int status = 0; status <= 99; status++) {
            DUE.is("exception(" + status + ")", file.exception(status), KIND_OF_FIRST_DIGIT[status / 10]);
            DUE.is("position(" + status + ")", file.position(status), positionDue(status));
            DUE.is("area(" + status + ")", file.area(status), areaDue(status));
            DUE.is("extended(" + status + ")", file.extended(status), 100 * status + 29);
        }
        FileStatus lost = Files.opened(1, 0);
        lost.act(1, 1);
        DUE.is("0 is 'as it is', wherever it is", lost.position(30), 0);
        DUE.is("lost: position(0)", lost.position(0), 1);
    }

    private static int positionDue(int status) {
        switch (status) {
            case 0: case 2: case 4: return 1;
            case 10: return 2;
            case 14: case 23: case 46: return 3;
            default: return 0;
        }
    }

    private static int areaDue(int status) {
        switch (status) {
            case 0: case 2: return 1;
            case 4: return 2;
            default: return 0;
        }
    }

    private static void numbersThatAreNoStatus() {
        FileStatus file = new FileStatus(0);
        for (int status : Files.outside(0, 99)) {
            DUE.is("exception(" + status + ")", file.exception(status), FileStatus.NONE);
            DUE.is("position(" + status + ")", file.position(status), FileStatus.NONE);
            DUE.is("area(" + status + ")", file.area(status), FileStatus.NONE);
            DUE.is("extended(" + status + ")", file.extended(status), FileStatus.NONE);
            DUE.is("both(" + status + ", 0)", file.both(status, 0), FileStatus.NONE);
            DUE.is("both(0, " + status + ")", file.both(0, status), FileStatus.NONE);
            DUE.is("both(99, " + status + ")", file.both(99, status), FileStatus.NONE);
            DUE.is("both of " + status, file.both(status, status), FileStatus.NONE);
        }
        DUE.is("NONE", FileStatus.NONE, -1);
    }

    private static void twoStatusesAtATime() {
        FileStatus file = new FileStatus(0);
        for (int a = 0; a <= 99; a++) {
            for (int b = a; b <= 99; b++) {
                // Kinds never fall as the number grows, so only equal kinds let the lesser one win.
                boolean sameKind = KIND_OF_FIRST_DIGIT[a / 10] == KIND_OF_FIRST_DIGIT[b / 10];
                int due = sameKind ? a : b;
                DUE.is("both(" + a + ", " + b + ")", file.both(a, b), due);
                DUE.is("both(" + b + ", " + a + ")", file.both(b, a), due);
            }
        }
    }

    private static void extendedTellsOrganisationAndAct() {
        for (int organisation = 0; organisation <= 2; organisation++) {
            FileStatus file = new FileStatus(organisation);
            int base = 2300 + 10 * organisation;
            DUE.is("ahead of all", file.extended(23), base + 9);
            file.act(7, 0);
            DUE.is("an act that is none is not the latest", file.extended(23), base + 9);
            file.act(4, 0);
            DUE.is("an act of a closed file", file.extended(23), base + 4);
            file.open(3);
            DUE.is("an opening that failed", file.extended(23), base + 7);
            file.open(0);
            for (int kind = 0; kind <= 6; kind++) {
                file.act(kind, 0);
                DUE.is("act " + kind, file.extended(23), base + kind);
            }
            file.mode(1);
            file.optional(true);
            file.declarative(1, true);
            DUE.is("what is no act leaves it", file.extended(23), base + 6);
        }
    }

    private static void askingChangesNothing() {
        FileStatus file = Files.opened(0, 2);
        file.act(0, 0);
        String before = Files.state(file);
        for (int status : new int[] {0, 10, 23, 46, 90, 100}) {
            file.exception(status);
            file.position(status);
            file.both(status, 99);
            file.extended(status);
            file.area(status);
        }
        DUE.is("the state is as before", before.equals(Files.state(file)) ? 1 : 0, 1);
    }
}
