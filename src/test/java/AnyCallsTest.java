import java.util.Random;

/** Runs of 512 calls of any kind with any arguments: nothing is ever thrown, and each answer is as the document tells. */
public final class AnyCallsTest {
    private static final int RUNS = 3000;
    private static final int CALLS = 512;
    private static final int[] EDGES = {Integer.MIN_VALUE, Integer.MAX_VALUE, -5, -4, 38, 99, 100, 256};

    private static final Due DUE = new Due();

    /** What a wrong answer is printed with: made into a text only then. */
    private record Asked(int seed, int number, Call call) {
    }

    public static void main(String[] args) {
        for (int seed = 0; seed < RUNS; seed++) {
            run(seed);
        }
        DUE.end();
    }

    private static void run(int seed) {
        Random random = new Random(seed);
        int organisation = number(random);
        FileStatus file = new FileStatus(organisation);
        Told told = new Told(organisation);
        for (int number = 1; number <= CALLS; number++) {
            Call call = anyCall(random);
            DUE.is(new Asked(seed, number, call), call.answer(file), call.due(told));
        }
    }

    private static Call anyCall(Random random) {
        // Half of all calls are acts, so that a run comes to many states.
        String method = random.nextBoolean() ? "act" : Call.METHODS[random.nextInt(Call.METHODS.length)];
        return new Call(method, number(random), number(random), random.nextBoolean());
    }

    private static int number(Random random) {
        switch (random.nextInt(20)) {
            case 0: return EDGES[random.nextInt(EDGES.length)];
            case 1: return random.nextInt(102) - 1;
            default: return random.nextInt(11) - 1;
        }
    }
}
