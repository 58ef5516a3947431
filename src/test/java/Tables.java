/** The document's "Terms" written out as tables, for the tests that go through all of them. */
final class Tables {
    private static final int NOT_TOLD = 90;

    // By mode, then by outcome 0 .. 6, of a file that is not optional.
    private static final int[][] OPENING = {
        {0, 35, 37, 39, 38, 30, 61},
        {0, 0, 37, 39, 38, 30, 61},
        {0, 35, 37, 39, 38, 30, 61},
        {0, 35, 37, 39, 38, 30, 61},
    };

    // The same of an optional one.
    private static final int[][] OPENING_OPTIONAL = {
        {0, 5, 37, 39, 38, 30, 61},
        {0, 0, 37, 39, 38, 30, 61},
        {0, 5, 37, 39, 38, 30, 61},
        {0, 5, 37, 39, 38, 30, 61},
    };

    // By organisation and mode, then by kind 0 .. 6: the status of a check that needs no more than
    // these to answer, or 0 where none does.
    private static final int[][][] BY_MODE = {
        {
            {0, 90, 48, 49, 90, 90, 0},
            {47, 90, 0, 49, 90, 90, 0},
            {0, 90, 48, 0, 90, 90, 0},
            {47, 90, 0, 49, 90, 90, 0},
        },
        {
            {0, 0, 48, 49, 49, 0, 0},
            {47, 47, 0, 49, 49, 47, 0},
            {0, 0, 0, 0, 0, 0, 0},
            {47, 47, 0, 49, 49, 47, 0},
        },
        {
            {0, 0, 48, 49, 49, 0, 0},
            {47, 47, 0, 49, 49, 47, 0},
            {0, 0, 0, 0, 0, 0, 0},
            {47, 47, 0, 49, 49, 47, 0},
        },
    };

    // By organisation and kind, then by outcome 0 .. 8; an empty row is an act that no sequential file has.
    private static final int[][][] BY_OUTCOME = {
        {
            {0, 10, 90, 90, 90, 30, 51, 4, 90},
            {},
            {0, 90, 90, 90, 34, 30, 51, 44, 90},
            {0, 90, 90, 90, 90, 30, 51, 44, 90},
            {},
            {},
            {0, 90, 90, 90, 90, 30, 90, 90, 90},
        },
        {
            {0, 10, 90, 90, 14, 30, 51, 4, 90},
            {0, 23, 90, 90, 90, 30, 51, 4, 90},
            {0, 90, 90, 22, 24, 30, 51, 44, 90},
            {0, 23, 90, 90, 90, 30, 51, 44, 90},
            {0, 23, 90, 90, 90, 30, 51, 90, 90},
            {0, 23, 90, 90, 90, 30, 51, 90, 90},
            {0, 90, 90, 90, 90, 30, 90, 90, 90},
        },
        {
            {0, 10, 2, 90, 90, 30, 51, 4, 90},
            {0, 23, 2, 90, 90, 30, 51, 4, 90},
            {0, 90, 2, 22, 24, 30, 51, 44, 21},
            {0, 23, 2, 22, 90, 30, 51, 44, 21},
            {0, 23, 90, 90, 90, 30, 51, 90, 90},
            {0, 23, 90, 90, 90, 30, 51, 90, 90},
            {0, 90, 90, 90, 90, 30, 90, 90, 90},
        },
    };

    private static final int[] KIND_OF_FIRST_DIGIT = {0, 1, 2, 3, 4, 5, 5, 6, 6, 6};

    private Tables() {
    }

    static int opening(int mode, boolean optional, int outcome) {
        int[] row = (optional ? OPENING_OPTIONAL : OPENING)[mode];
        return outcome >= 0 && outcome < row.length ? row[outcome] : NOT_TOLD;
    }

    static int modeCheck(int organisation, int mode, int kind) {
        return BY_MODE[organisation][mode][kind];
    }

    static int byOutcome(int organisation, int kind, int outcome) {
        return outcome >= 0 && outcome <= 8 ? BY_OUTCOME[organisation][kind][outcome] : NOT_TOLD;
    }

    static int kindOf(int status) {
        return KIND_OF_FIRST_DIGIT[status / 10];
    }

    /** Where the position is by a status of acts 0, 1 and 5. */
    static int placeAfter(int status, int before) {
        switch (status) {
            case 0: case 2: case 4: return 1;
            case 10: return 2;
            case 14: case 23: case 46: return 3;
            default: return before;
        }
    }

    static int area(int status) {
        switch (status) {
            case 0: case 2: return 1;
            case 4: return 2;
            default: return 0;
        }
    }
}
