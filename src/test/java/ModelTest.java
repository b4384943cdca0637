import java.lang.reflect.Method;
import java.util.ArrayList;
import java.util.Arrays;
import java.util.List;
import java.util.Random;

/** All promises: runs of calls, always the same ones, on the program and on the model. */
public final class ModelTest {
    private static final int RUNS = 1200;
    private static final int CALLS = 512;
    private static final String[] NAMES = {
        "join", "leave", "crash", "setOnline", "pay", "peerInfo", "balance", "word", "store", "delete",
        "fileInfo", "fragment", "read", "decode", "spoil", "audit", "passingSeeds", "repair", "repairAll",
        "undo", "tolerance", "endangered", "leavers", "count"};
    // How often each call comes, in each kind of run: lively, crowded, spoiled, quiet, full.
    private static final int[][] OFTEN = {
        {6, 4, 3, 8, 3, 4, 4, 16, 7, 1, 5, 6, 3, 5, 6, 6, 2, 3, 3, 4, 1, 3, 2, 5},
        {9, 2, 1, 5, 4, 4, 4, 20, 9, 1, 5, 6, 3, 5, 6, 6, 2, 4, 3, 2, 1, 3, 2, 5},
        {6, 2, 1, 6, 2, 3, 3, 16, 7, 1, 4, 5, 6, 9, 14, 14, 6, 3, 2, 1, 1, 2, 2, 3},
        {6, 8, 1, 3, 6, 5, 5, 14, 6, 1, 5, 5, 2, 2, 3, 12, 1, 6, 4, 6, 2, 4, 5, 6},
        {12, 1, 1, 2, 2, 3, 3, 24, 12, 0, 4, 4, 2, 3, 3, 5, 2, 2, 2, 1, 2, 3, 2, 5}};
    private static final int[] MOST_SPACE = {4, 8, 40, 3, 12};
    private static final int[] MOST_PEERS = {11, 11, 6, 8, 12};

    private static final Method[] OF_PROGRAM = methodsOf(PeerStorage.class);
    private static final Method[] OF_MODEL = methodsOf(Model.class);

    private final Random random;
    private final int kind;
    private final PeerStorage program = new PeerStorage();
    private final Model model = new Model();
    private final List<String> told = new ArrayList<>();

    private ModelTest(int run) {
        random = new Random(run);
        kind = run % OFTEN.length;
    }

    public static void main(String[] args) throws ReflectiveOperationException {
        int[][] answers = new int[NAMES.length][5];
        for (int run = 0; run < RUNS; run++) {
            if (!new ModelTest(run).agrees(run, answers)) {
                break;
            }
        }
        lookAtReach(answers);
        Due.end();
    }

    private boolean agrees(int run, int[][] answers) throws ReflectiveOperationException {
        for (int call = 0; call < CALLS; call++) {
            int name = nextName();
            int a = argument(name, 0);
            int b = argument(name, 1);
            int c = argument(name, 2);
            int want = ask(model, OF_MODEL[name], a, b, c);
            int got = ask(program, OF_PROGRAM[name], a, b, c);
            told.add(NAMES[name] + "(" + a + ", " + b + ", " + c + ") -> " + got);
            answers[name][want <= -10001 && want >= -10004 ? -10000 - want : 0]++;
            Due.is("run " + run + ", call " + call + ", " + NAMES[name], want, got);
            if (want != got) {
                told.forEach(System.out::println);
                return false;
            }
        }
        return true;
    }

    /** The runs are worth nothing if a kind of answer hardly ever comes up in them. */
    private static void lookAtReach(int[][] answers) {
        String[] errors = {
            "13", "12", "1", "1", "12", "1", "1", "13", "123", "1",
            "1", "14", "12", "14", "12", "12", "1", "12", "1",
            "2", "2", "1", "", "1"};
        for (int name = 0; name < NAMES.length; name++) {
            for (int error = 0; error <= 4; error++) {
                boolean due = error == 0 || errors[name].indexOf('0' + error) >= 0;
                boolean often = answers[name][error] >= 20;
                Due.is(NAMES[name] + " answers of kind " + error + " come up", due ? 1 : 0, often ? 1 : 0);
            }
        }
    }

    private int nextName() {
        int sum = 0;
        for (int often : OFTEN[kind]) {
            sum += often;
        }
        int left = random.nextInt(sum);
        int name = 0;
        while (left >= OFTEN[kind][name]) {
            left -= OFTEN[kind][name];
            name++;
        }
        return name;
    }

    /** Mostly within the range of the parameter, sometimes at or beyond its edges. */
    private int argument(int name, int at) {
        if (random.nextInt(60) == 0) {
            return Due.WILD[random.nextInt(Due.WILD.length)];
        }
        return switch (NAMES[name] + at) {
            case "join0" -> 1 + random.nextInt(MOST_SPACE[kind]) - random.nextInt(20) / 19;
            case "leave0", "crash0", "setOnline0", "pay0", "pay1", "peerInfo0", "balance0", "balance1",
                "store0", "audit0", "audit1", "passingSeeds0", "passingSeeds1", "endangered0" ->
                random.nextInt(MOST_PEERS[kind]);
            case "setOnline1" -> random.nextInt(10) == 0 ? 2 : random.nextInt(4) == 0 ? 0 : 1;
            case "pay2" -> random.nextInt(20) == 0 ? 999 + random.nextInt(3) : random.nextInt(6);
            case "peerInfo1" -> random.nextInt(7);
            case "word0" -> random.nextInt(8) == 0 ? 254 + random.nextInt(3) : random.nextInt(256);
            case "store1" -> random.nextInt(40) == 0 ? 5 : random.nextInt(5);
            case "delete0", "fileInfo0", "fragment0", "read0", "decode0", "spoil0", "repair0" -> someFile();
            case "fileInfo1" -> random.nextInt(8);
            case "fragment1", "spoil1" -> random.nextInt(random.nextInt(4) == 0 ? 11 : 5);
            case "fragment2" -> random.nextInt(20) == 0 ? 2 : random.nextInt(2);
            case "read1", "decode2" -> random.nextInt(random.nextInt(3) == 0 ? 7 : 3);
            case "decode1" -> random.nextInt(1 << 1 + random.nextInt(10));
            case "spoil2" -> random.nextInt(20) == 0 ? 257 * random.nextInt(2) : spoilAmount();
            case "audit2" -> random.nextInt(30) == 0 ? 257 : random.nextInt(random.nextInt(2) == 0 ? 3 : 257);
            case "repairAll0" -> random.nextInt(7);
            case "count0" -> random.nextInt(10);
            default -> 0;
        };
    }

    private int someFile() {
        return random.nextInt(random.nextInt(3) == 0 ? 9 : 3);
    }

    /** Few different amounts, so that they add up to 257 now and then. */
    private int spoilAmount() {
        return switch (random.nextInt(4)) {
            case 0 -> 1;
            case 1 -> 256;
            case 2 -> 128 + random.nextInt(2);
            default -> 1 + random.nextInt(256);
        };
    }

    private static Method[] methodsOf(Class<?> type) {
        Method[] methods = new Method[NAMES.length];
        for (int name = 0; name < NAMES.length; name++) {
            for (Method method : type.getDeclaredMethods()) {
                if (method.getName().equals(NAMES[name])) {
                    methods[name] = method;
                }
            }
        }
        return methods;
    }

    /** Hands over as many of the arguments as the method takes. */
    private static int ask(Object asked, Method method, Object... arguments) throws ReflectiveOperationException {
        return (int) method.invoke(asked, Arrays.copyOf(arguments, method.getParameterCount()));
    }
}
