/** Files in the states that several tests begin from. */
final class Files {
    private Files() {
    }

    static FileStatus opened(int organisation, int mode) {
        FileStatus file = new FileStatus(organisation);
        file.mode(mode);
        file.open(0);
        return file;
    }

    /** An optional file that was missing when it was opened. */
    static FileStatus openedMissing(int organisation, int mode) {
        FileStatus file = new FileStatus(organisation);
        file.mode(mode);
        file.optional(true);
        file.open(1);
        return file;
    }

    /** Numbers below and above a range, with those that only look like 0 when their upper bits are dropped. */
    static int[] outside(int low, int high) {
        return new int[] {
            low - 1, low - 2, low - 100, high + 1, high + 2, high + 100,
            256, -256, 65536, -65536, Integer.MIN_VALUE, Integer.MAX_VALUE,
        };
    }

    /** A file whose latest status is of a kind of exception, 0 .. 6. */
    static FileStatus withLatestKind(int kind) {
        FileStatus file = opened(1, 0);
        switch (kind) {
            case 0: file.act(0, 7); break;
            case 1: file.act(0, 1); break;
            case 2: file.act(1, 1); break;
            case 3: file.act(0, 5); break;
            case 4: file.act(2, 0); break;
            case 5: file.act(0, 6); break;
            default: file.act(0, 9); break;
        }
        return file;
    }

    /** What a call that is refused must leave as it was, in one text to compare. */
    static String state(FileStatus file) {
        StringBuilder text = new StringBuilder();
        for (int what = 0; what <= 6; what++) {
            text.append(file.count(what)).append(' ');
        }
        return text.append(file.extended(0)).append(' ').append(file.phrase(false)).toString();
    }
}
