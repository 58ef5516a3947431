/** Files in the states that several tests begin from. */
final class Files {
    static final int[] NO_STATUSES = {-1, -2, -100, 100, 101, 1000, Integer.MIN_VALUE, Integer.MAX_VALUE};

    private Files() {
    }

    static FileStatus opened(int organisation, int mode) {
        FileStatus file = new FileStatus(organisation);
        file.mode(mode);
        file.open(0);
        return file;
    }

    /** An optional file that was missing when it was opened. */
    static FileStatus openedMissing(int organisation, int mode) {
        FileStatus file = new FileStatus(organisation);
        file.mode(mode);
        file.optional(true);
        file.open(1);
        return file;
    }

    /** What a call that is refused must leave as it was, in one text to compare. */
    static String state(FileStatus file) {
        StringBuilder text = new StringBuilder();
        for (int what = 0; what <= 6; what++) {
            text.append(file.count(what)).append(' ');
        }
        return text.append(file.extended(0)).append(' ').append(file.phrase(false)).toString();
    }
}
