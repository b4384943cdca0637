import java.util.List;
import java.util.Random;

/** All promises: runs of 512 calls, always the same ones, on the program and on the model. */
public final class ModelTest {
    private static final int RUNS = 1200;
    private static final List<String> NAMES = Both.NAMES;
    // How often each call comes, in each kind of run: lively, crowded, spoiled, quiet, full, trusting.
    private static final int[][] OFTEN = {
        {6, 4, 3, 8, 5, 4, 4, 16, 7, 3, 5, 6, 5, 5, 6, 6, 2, 3, 3, 4, 2, 3, 2, 5},
        {9, 3, 2, 5, 6, 4, 4, 20, 9, 3, 5, 6, 5, 5, 6, 6, 2, 4, 3, 2, 2, 3, 2, 5},
        {6, 2, 1, 6, 4, 3, 3, 16, 7, 2, 4, 5, 6, 9, 14, 14, 6, 3, 2, 1, 1, 2, 2, 3},
        {6, 8, 1, 3, 6, 5, 5, 14, 6, 1, 5, 5, 2, 2, 3, 12, 1, 6, 4, 6, 2, 4, 5, 6},
        {12, 1, 1, 2, 2, 3, 3, 24, 12, 0, 4, 4, 2, 3, 3, 5, 2, 2, 2, 1, 2, 3, 2, 5},
        {9, 1, 1, 2, 2, 9, 2, 16, 9, 1, 2, 2, 2, 2, 1, 60, 1, 3, 2, 2, 1, 2, 2, 3}};
    private static final int[] MOST_SPACE = {4, 8, 40, 3, 12, 20};
    private static final int[] MOST_PEERS = {11, 11, 6, 8, 13, 4};
    /** The errors of each call, 1 for INVALID_ARGUMENT to 4 for NOT_FOUND. */
    private static final String[] ERRORS = {
        "13", "12", "1", "1", "12", "1", "1", "13", "123", "1",
        "1", "14", "12", "14", "12", "12", "1", "12", "1",
        "2", "2", "1", "", "1"};

    // By the call and the kind of its answer, 0 for no error; and by two calls without error in a row.
    private static final int[][] ANSWERS = new int[NAMES.size()][5];
    private static final int[][] AFTER = new int[NAMES.size()][NAMES.size()];

    public static void main(String[] args) {
        boolean agree = true;
        for (int run = 0; run < RUNS && agree; run++) {
            agree = agree(run);
        }
        if (agree) {
            lookAtReach();
        }
        Due.end();
    }

    private static boolean agree(int run) {
        Random random = new Random(run);
        int kind = run % OFTEN.length;
        SomeArguments some = new SomeArguments(random, MOST_PEERS[kind], MOST_SPACE[kind]);
        Both both = new Both("run " + run);
        int previous = -1;
        while (both.agree() && both.calls() < Both.MOST_CALLS) {
            int name = nextName(random, OFTEN[kind]);
            int want = both.ask(name, some.of(NAMES.get(name), both.model()));
            int error = want <= -10001 && want >= -10004 ? -10000 - want : 0;
            ANSWERS[name][error]++;
            if (error == 0 && previous >= 0) {
                AFTER[previous][name]++;
            }
            previous = error == 0 ? name : -1;
        }
        return both.agree();
    }

    private static int nextName(Random random, int[] oftenOf) {
        int sum = 0;
        for (int often : oftenOf) {
            sum += often;
        }
        int left = random.nextInt(sum);
        int name = 0;
        while (left >= oftenOf[name]) {
            left -= oftenOf[name];
            name++;
        }
        return name;
    }

    /** The runs are worth nothing if a kind of answer, or an order of calls, hardly ever comes up in them. */
    private static void lookAtReach() {
        for (int name = 0; name < NAMES.size(); name++) {
            for (int error = 0; error <= 4; error++) {
                boolean due = error == 0 || ERRORS[name].indexOf('0' + error) >= 0;
                boolean often = ANSWERS[name][error] >= 20;
                Due.is(NAMES.get(name) + " answers of kind " + error + " come up", due ? 1 : 0, often ? 1 : 0);
            }
            for (int next = 0; next < NAMES.size(); next++) {
                // Right after a store no words wait for another one.
                boolean due = !NAMES.get(name).equals("store") || !NAMES.get(next).equals("store");
                boolean often = AFTER[name][next] >= 20;
                Due.is(NAMES.get(next) + " comes after " + NAMES.get(name), due ? 1 : 0, often ? 1 : 0);
            }
        }
    }
}
