/** One call of the face with its arguments; those that its method does not take are left aside. */
record Call(String method, int a, int b, boolean yes) {
    static final String[] METHODS = {
        "mode", "open", "act", "exception", "phrase", "declarative",
        "position", "optional", "both", "extended", "area", "count",
    };

    static Call of(String method, int a) {
        return new Call(method, a, 0, false);
    }

    int answer(FileStatus file) {
        switch (method) {
            case "mode": return file.mode(a);
            case "open": return file.open(a);
            case "act": return file.act(a, b);
            case "exception": return file.exception(a);
            case "phrase": return file.phrase(yes);
            case "declarative": return file.declarative(a, yes);
            case "position": return file.position(a);
            case "optional": return file.optional(yes);
            case "both": return file.both(a, b);
            case "extended": return file.extended(a);
            case "area": return file.area(a);
            case "count": return file.count(a);
            default: throw new IllegalArgumentException(method);
        }
    }

    int due(Told told) {
        switch (method) {
            case "mode": return told.mode(a);
            case "open": return told.open(a);
            case "act": return told.act(a, b);
            case "exception": return told.exception(a);
            case "phrase": return told.phrase(yes);
            case "declarative": return told.declarative(a, yes);
            case "position": return told.position(a);
            case "optional": return told.optional(yes);
            case "both": return told.both(a, b);
            case "extended": return told.extended(a);
            case "area": return told.area(a);
            case "count": return told.count(a);
            default: throw new IllegalArgumentException(method);
        }
    }

    @Override
    public String toString() {
        switch (method) {
            case "act": case "both": return method + "(" + a + ", " + b + ")";
            case "phrase": case "optional": return method + "(" + yes + ")";
            case "declarative": return method + "(" + a + ", " + yes + ")";
            default: return method + "(" + a + ")";
        }
    }
}
