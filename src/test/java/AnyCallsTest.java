import java.util.Random;

/** Runs of 512 calls of any kind with any arguments: nothing is ever thrown, and like calls answer alike. */
public final class AnyCallsTest {
    private static final int RUNS = 300;
    private static final int CALLS = 512;
    private static final int[] EDGES = {Integer.MIN_VALUE, Integer.MAX_VALUE, -5, -4, 99, 100};

    private static final Due DUE = new Due();

    public static void main(String[] args) {
        for (int seed = 0; seed < RUNS; seed++) {
            DUE.is("run " + seed + ", made twice", run(seed), run(seed));
        }
        DUE.end();
    }

    private static int run(int seed) {
        Random random = new Random(seed);
        FileStatus file = new FileStatus(number(random));
        int sum = 0;
        for (int i = 0; i < CALLS; i++) {
            sum = 31 * sum + anyCall(file, random);
        }
        return sum;
    }

    private static int anyCall(FileStatus file, Random random) {
        int a = number(random);
        int b = number(random);
        boolean yes = random.nextBoolean();
        switch (random.nextInt(12)) {
            case 0: return file.mode(a);
            case 1: return file.open(a);
            case 2: return file.exception(a);
            case 3: return file.phrase(yes);
            case 4: return file.declarative(a, yes);
            case 5: return file.position(a);
            case 6: return file.optional(yes);
            case 7: return file.both(a, b);
            case 8: return file.extended(a);
            case 9: return file.area(a);
            case 10: return file.count(a);
            default: return file.act(a, b);
        }
    }

    private static int number(Random random) {
        return random.nextInt(10) == 0 ? EDGES[random.nextInt(EDGES.length)] : random.nextInt(12) - 1;
    }
}
