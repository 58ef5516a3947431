import java.util.ArrayDeque;
import java.util.ArrayList;
import java.util.HashSet;
import java.util.List;
import java.util.Queue;
import java.util.Set;

/** Each state that a file can be brought to, by the shortest run to it: every call that changes something, made there. */
public final class EveryStateTest {
    private static final Due DUE = new Due();

    private static final List<Call> CHANGES = changes();
    private static final List<Call> LOOKS = looks();

    /** A run of calls on a new file, and what the document tells of the file after it. */
    private record Run(List<Call> calls, Told told) {
    }

    /** What a wrong answer is printed with: made into a text only then. */
    private record Asked(int organisation, List<Call> after, Call call) {
    }

    public static void main(String[] args) {
        for (int organisation = 0; organisation <= 2; organisation++) {
            goThroughAllStates(organisation);
        }
        DUE.end();
    }

    private static List<Call> changes() {
        List<Call> calls = new ArrayList<>();
        for (int m = -1; m <= 4; m++) {
            calls.add(Call.of("mode", m));
        }
        calls.add(new Call("optional", 0, 0, true));
        calls.add(new Call("optional", 0, 0, false));
        for (int outcome = -1; outcome <= 7; outcome++) {
            calls.add(Call.of("open", outcome));
        }
        for (int kind = -1; kind <= 7; kind++) {
            for (int outcome = -1; outcome <= 9; outcome++) {
                calls.add(new Call("act", kind, outcome, false));
            }
        }
        return calls;
    }

    private static List<Call> looks() {
        List<Call> calls = new ArrayList<>();
        for (int what = 0; what <= 6; what++) {
            calls.add(Call.of("count", what));
        }
        calls.add(Call.of("extended", 99));
        calls.add(new Call("phrase", 0, 0, true));
        calls.add(new Call("phrase", 0, 0, false));
        return calls;
    }

    private static void goThroughAllStates(int organisation) {
        Set<String> seen = new HashSet<>();
        Queue<Run> ahead = new ArrayDeque<>();
        Run none = new Run(List.of(), new Told(organisation));
        seen.add(none.told().state());
        ahead.add(none);
        while (!ahead.isEmpty()) {
            Run run = ahead.remove();
            for (Call call : CHANGES) {
                Run longer = tryCall(organisation, run, call);
                if (seen.add(longer.told().state())) {
                    ahead.add(longer);
                }
            }
        }
    }

    private static Run tryCall(int organisation, Run run, Call call) {
        FileStatus file = new FileStatus(organisation);
        for (Call before : run.calls()) {
            before.answer(file);
        }
        Told told = run.told().copy();
        DUE.is(new Asked(organisation, run.calls(), call), call.answer(file), call.due(told));
        List<Call> calls = new ArrayList<>(run.calls());
        calls.add(call);
        for (Call look : LOOKS) {
            DUE.is(new Asked(organisation, calls, look), look.answer(file), look.due(told));
        }
        return new Run(calls, told);
    }
}
