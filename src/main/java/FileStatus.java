/**
 * Statuses of a business language's files.
 *
 * Statuses and outcomes stand here as bare numbers: the document knows them by number alone,
 * and names of our own would only hide which of its lines a line here follows.
 */
public final class FileStatus {
    public static final int NONE = -1;

    private static final int WRONG_ARGUMENT = -4;
    private static final int FILE_IS_OPEN = -5;

    private static final int SEQUENTIAL = 0;
    private static final int RELATIVE = 1;
    private static final int INDEXED = 2;

    private static final int INPUT = 0;
    private static final int OUTPUT = 1;
    private static final int BOTH = 2;
    private static final int EXTEND = 3;

    private static final int AHEAD_OF_ALL = 0;
    private static final int SOMEWHERE = 1;
    private static final int AT_THE_END = 2;
    private static final int LOST = 3;

    private static final int READ_NEXT = 0;
    private static final int READ_BY_KEY = 1;
    private static final int WRITE = 2;
    private static final int REWRITE = 3;
    private static final int DELETE = 4;
    private static final int START = 5;
    private static final int CLOSE = 6;
    private static final int OPENING = 7;
    private static final int NO_ACT_YET = 9;

    private static final int NOT_TOLD = 90;

    private final int organisation;
    private int chosenMode = INPUT;
    private boolean isOpen = false;
    private boolean isOptional = false;
    private int place = AHEAD_OF_ALL;
    private boolean endIsNext = false;
    private boolean permit = false;
    private int latestStatus = 0;
    private int latestAct = NO_ACT_YET;
    private int declaratives = 0;
    private int goodActs = 0;
    private int badActsAndOpenings = 0;

    public FileStatus(int organisation) {
        this.organisation = Math.max(SEQUENTIAL, Math.min(INDEXED, organisation));
    }

    public int mode(int m) {
        if (isOpen) {
            return FILE_IS_OPEN;
        }
        if (m < INPUT || m > EXTEND) {
            return WRONG_ARGUMENT;
        }
        int before = chosenMode;
        chosenMode = m;
        return before;
    }

    public int open(int outcome) {
        int status = statusOfOpening(outcome);
        if (status == 0 || status == 5) {
            isOpen = true;
            place = AHEAD_OF_ALL;
            endIsNext = status == 5 && isForReading();
        }
        permit = false;
        remember(OPENING, status);
        return status;
    }

    public int act(int kind, int outcome) {
        if (kind < READ_NEXT || kind > CLOSE) {
            return WRONG_ARGUMENT;
        }
        int status = statusOfAct(kind, outcome);
        if (kind == READ_NEXT) {
            // The document speaks of the next read next: that was this one, even if a check answered it.
            endIsNext = false;
        }
        move(kind, status);
        permit = isRead(kind) && givesPlace(status);
        remember(kind, status);
        return status;
    }

    public int exception(int status) {
        if (!isStatus(status)) {
            return NONE;
        }
        int firstDigit = status / 10;
        if (firstDigit <= 5) {
            return firstDigit;
        }
        return firstDigit == 6 ? 5 : 6;
    }

    public int phrase(boolean there) {
        int kind = exception(latestStatus);
        if (kind == 0) {
            return 0;
        }
        boolean isForPhrase = kind == 1 || kind == 2;
        if (isForPhrase && there) {
            return 1;
        }
        if (hasDeclarative(kind)) {
            return 2;
        }
        return isForPhrase ? 4 : 3;
    }

    public int declarative(int kind, boolean on) {
        if (kind < 1 || kind > 6) {
            return WRONG_ARGUMENT;
        }
        int before = hasDeclarative(kind) ? 1 : 0;
        int bit = 1 << kind;
        declaratives = on ? declaratives | bit : declaratives & ~bit;
        return before;
    }

    public int position(int status) {
        if (!isStatus(status)) {
            return NONE;
        }
        return placeAfter(status, 0);
    }

    public int optional(boolean on) {
        if (isOpen) {
            return FILE_IS_OPEN;
        }
        int before = isOptional ? 1 : 0;
        isOptional = on;
        return before;
    }

    public int both(int a, int b) {
        if (!isStatus(a) || !isStatus(b)) {
            return NONE;
        }
        int kindOfA = exception(a);
        int kindOfB = exception(b);
        if (kindOfA == kindOfB) {
            return Math.min(a, b);
        }
        return kindOfA > kindOfB ? a : b;
    }

    public int extended(int status) {
        if (!isStatus(status)) {
            return NONE;
        }
        return 100 * status + 10 * organisation + latestAct;
    }

    public int area(int status) {
        if (!isStatus(status)) {
            return NONE;
        }
        if (status == 0 || status == 2) {
            return 1;
        }
        return status == 4 ? 2 : 0;
    }

    public int count(int what) {
        switch (what) {
            case 0: return isOpen ? chosenMode : NONE;
            case 1: return place;
            case 2: return permit ? 1 : 0;
            case 3: return latestStatus;
            case 4: return goodActs;
            case 5: return badActsAndOpenings;
            case 6: return organisation;
            default: return NONE;
        }
    }

    private int statusOfOpening(int outcome) {
        if (isOpen) {
            return 41;
        }
        switch (outcome) {
            case 0: return 0;
            case 1: return statusOfMissingFile();
            case 2: return 37;
            case 3: return 39;
            case 4: return 38;
            case 5: return 30;
            case 6: return 61;
            default: return NOT_TOLD;
        }
    }

    private int statusOfMissingFile() {
        if (chosenMode == OUTPUT) {
            return 0;
        }
        return isOptional ? 5 : 35;
    }

    private int statusOfAct(int kind, int outcome) {
        int refusal = statusAheadOfOutcome(kind);
        if (refusal != NONE) {
            return refusal;
        }
        if (kind == READ_NEXT && endIsNext) {
            return 10;
        }
        return statusByOutcome(kind, outcome);
    }

    /** The status of the first check that answers, in the document's order; NONE when all let the act pass. */
    private int statusAheadOfOutcome(int kind) {
        if (!isOpen) {
            return 42;
        }
        if (organisation == SEQUENTIAL && (kind == READ_BY_KEY || kind == DELETE || kind == START)) {
            return NOT_TOLD;
        }
        int refusal = statusOfWrongMode(kind);
        if (refusal != NONE) {
            return refusal;
        }
        if (kind == REWRITE && organisation == SEQUENTIAL && !permit) {
            return 43;
        }
        if (kind == READ_NEXT && (place == AT_THE_END || place == LOST)) {
            return 46;
        }
        return NONE;
    }

    private int statusOfWrongMode(int kind) {
        switch (kind) {
            case READ_NEXT:
            case READ_BY_KEY:
            case START:
                return isForReading() ? NONE : 47;
            case WRITE:
                return isForWriting() ? NONE : 48;
            case REWRITE:
            case DELETE:
                return chosenMode == BOTH ? NONE : 49;
            default:
                return NONE;
        }
    }

    private int statusByOutcome(int kind, int outcome) {
        switch (outcome) {
            case 0: return 0;
            case 1: return statusOfNoRecord(kind);
            case 2: return organisation == INDEXED && kind <= REWRITE ? 2 : NOT_TOLD;
            case 3: return statusOfBarredDouble(kind);
            case 4: return statusOfNoRoom(kind);
            case 5: return 30;
            case 6: return kind == CLOSE ? NOT_TOLD : 51;
            case 7: return statusOfLength(kind);
            case 8: return organisation == INDEXED && isWriteOrRewrite(kind) ? 21 : NOT_TOLD;
            default: return NOT_TOLD;
        }
    }

    private int statusOfNoRecord(int kind) {
        switch (kind) {
            case READ_NEXT:
                return 10;
            case REWRITE:
                return organisation == SEQUENTIAL ? NOT_TOLD : 23;
            case READ_BY_KEY:
            case DELETE:
            case START:
                return 23;
            default:
                return NOT_TOLD;
        }
    }

    private int statusOfBarredDouble(int kind) {
        boolean isBarredWrite = kind == WRITE && organisation != SEQUENTIAL;
        boolean isBarredRewrite = kind == REWRITE && organisation == INDEXED;
        return isBarredWrite || isBarredRewrite ? 22 : NOT_TOLD;
    }

    private int statusOfNoRoom(int kind) {
        if (kind == WRITE) {
            return organisation == SEQUENTIAL ? 34 : 24;
        }
        return kind == READ_NEXT && organisation == RELATIVE ? 14 : NOT_TOLD;
    }

    private int statusOfLength(int kind) {
        if (isRead(kind)) {
            return 4;
        }
        return isWriteOrRewrite(kind) ? 44 : NOT_TOLD;
    }

    private void move(int kind, int status) {
        if (isRead(kind) || kind == START) {
            place = placeAfter(status, place);
        }
        if (kind == CLOSE && status == 0) {
            isOpen = false;
        }
    }

    private void remember(int act, int status) {
        latestAct = act;
        latestStatus = status;
        if (status > 9) {
            badActsAndOpenings++;
        } else if (act != OPENING) {
            goodActs++;
        }
    }

    private boolean hasDeclarative(int kind) {
        return (declaratives >> kind & 1) == 1;
    }

    private boolean isForReading() {
        return chosenMode == INPUT || chosenMode == BOTH;
    }

    private boolean isForWriting() {
        return chosenMode == OUTPUT || chosenMode == EXTEND
            || chosenMode == BOTH && organisation != SEQUENTIAL;
    }

    private static int placeAfter(int status, int before) {
        if (givesPlace(status)) {
            return SOMEWHERE;
        }
        switch (status) {
            case 10: return AT_THE_END;
            case 14:
            case 23:
            case 46: return LOST;
            default: return before;
        }
    }

    /** Of a read, these are the statuses by which it gave a record, too. */
    private static boolean givesPlace(int status) {
        return status == 0 || status == 2 || status == 4;
    }

    private static boolean isRead(int kind) {
        return kind == READ_NEXT || kind == READ_BY_KEY;
    }

    private static boolean isWriteOrRewrite(int kind) {
        return kind == WRITE || kind == REWRITE;
    }

    private static boolean isStatus(int status) {
        return status >= 0 && status <= 99;
    }
}
