/** What the document tells of one file: told a second time, by the tables, to hold the class against. */
final class Told {
    private final int organisation;
    private int mode = 0;
    private boolean open = false;
    private boolean optional = false;
    private int place = 0;
    private boolean atTheEndsBeginning = false;
    private boolean permit = false;
    private int status = 0;
    private int latest = 9;
    private boolean[] declared = new boolean[7];
    private int good = 0;
    private int bad = 0;

    Told(int organisation) {
        this.organisation = organisation < 0 ? 0 : organisation > 2 ? 2 : organisation;
    }

    Told copy() {
        Told copy = new Told(organisation);
        copy.mode = mode;
        copy.open = open;
        copy.optional = optional;
        copy.place = place;
        copy.atTheEndsBeginning = atTheEndsBeginning;
        copy.permit = permit;
        copy.status = status;
        copy.latest = latest;
        copy.declared = declared.clone();
        copy.good = good;
        copy.bad = bad;
        return copy;
    }

    /** All that later answers hang on, but for the two sums and the declaratives, in one text to compare. */
    String state() {
        return organisation + " " + mode + " " + open + " " + optional + " " + place + " "
            + atTheEndsBeginning + " " + permit + " " + status + " " + latest;
    }

    int mode(int m) {
        if (open) {
            return -5;
        }
        if (m < 0 || m > 3) {
            return -4;
        }
        int before = mode;
        mode = m;
        return before;
    }

    int open(int outcome) {
        permit = false;
        latest = 7;
        status = open ? 41 : Tables.opening(mode, optional, outcome);
        if (status > 9) {
            bad++;
            return status;
        }
        open = true;
        place = 0;
        atTheEndsBeginning = status == 5 && (mode == 0 || mode == 2);
        return status;
    }

    int act(int kind, int outcome) {
        if (kind < 0 || kind > 6) {
            return -4;
        }
        status = statusOfAct(kind, outcome);
        latest = kind;
        permit = kind <= 1 && status <= 4;
        if (kind == 0) {
            atTheEndsBeginning = false;
        }
        if (kind == 0 || kind == 1 || kind == 5) {
            place = Tables.placeAfter(status, place);
        }
        if (kind == 6 && status == 0) {
            open = false;
        }
        if (status <= 9) {
            good++;
        } else {
            bad++;
        }
        return status;
    }

    private int statusOfAct(int kind, int outcome) {
        if (!open) {
            return 42;
        }
        int check = Tables.modeCheck(organisation, mode, kind);
        if (check != 0) {
            return check;
        }
        if (kind == 3 && organisation == 0 && !permit) {
            return 43;
        }
        if (kind == 0 && place >= 2) {
            return 46;
        }
        return kind == 0 && atTheEndsBeginning ? 10 : Tables.byOutcome(organisation, kind, outcome);
    }

    private static boolean isNone(int number) {
        return number < 0 || number > 99;
    }

    int exception(int number) {
        return isNone(number) ? -1 : Tables.kindOf(number);
    }

    int phrase(boolean there) {
        int kind = Tables.kindOf(status);
        switch (kind) {
            case 0: return 0;
            case 1: case 2: return there ? 1 : declared[kind] ? 2 : 4;
            default: return declared[kind] ? 2 : 3;
        }
    }

    int declarative(int kind, boolean on) {
        if (kind < 1 || kind > 6) {
            return -4;
        }
        int before = declared[kind] ? 1 : 0;
        declared[kind] = on;
        return before;
    }

    int position(int number) {
        return isNone(number) ? -1 : Tables.placeAfter(number, 0);
    }

    int optional(boolean on) {
        if (open) {
            return -5;
        }
        int before = optional ? 1 : 0;
        optional = on;
        return before;
    }

    int both(int a, int b) {
        if (isNone(a) || isNone(b)) {
            return -1;
        }
        int lesser = Math.min(a, b);
        int greater = Math.max(a, b);
        // Kinds never fall as the number grows, so only equal kinds let the lesser one win.
        return Tables.kindOf(lesser) == Tables.kindOf(greater) ? lesser : greater;
    }

    int extended(int number) {
        return isNone(number) ? -1 : 100 * number + 10 * organisation + latest;
    }

    int area(int number) {
        return isNone(number) ? -1 : Tables.area(number);
    }

    int count(int what) {
        int[] all = {open ? mode : -1, place, permit ? 1 : 0, status, good, bad, organisation};
        return what >= 0 && what < all.length ? all[what] : -1;
    }
}
