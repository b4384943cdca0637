import java.lang.reflect.Method;
import java.util.ArrayList;
import java.util.Arrays;
import java.util.List;

/** The program and the model, each made anew: both get the same calls, and their answers are compared. */
final class Both {
    /** All calls of the document, in its order. */
    static final List<String> NAMES = List.of(
        "join", "leave", "crash", "setOnline", "pay", "peerInfo", "balance", "word", "store", "delete",
        "fileInfo", "fragment", "read", "decode", "spoil", "audit", "passingSeeds", "repair", "repairAll",
        "undo", "tolerance", "endangered", "leavers", "count");
    static final int MOST_CALLS = 512;

    private static final Method[] OF_PROGRAM = methodsOf(PeerStorage.class);
    private static final Method[] OF_MODEL = methodsOf(Model.class);

    private final String run;
    private final PeerStorage program = new PeerStorage();
    private final Model model = new Model();
    private final List<String> told = new ArrayList<>();
    private boolean agree = true;

    Both(String run) {
        this.run = run;
    }

    private static Method[] methodsOf(Class<?> type) {
        Method[] methods = new Method[NAMES.size()];
        for (Method method : type.getDeclaredMethods()) {
            int name = NAMES.indexOf(method.getName());
            if (name >= 0) {
                methods[name] = method;
            }
        }
        return methods;
    }

    /** Hands over as many of the three as the call takes; returns what the model answers. */
    int ask(int name, int[] three) {
        Object[] arguments = arguments(name, three);
        int want = answer(model, OF_MODEL[name], arguments);
        if (told.size() >= MOST_CALLS) {
            throw new IllegalStateException(run + " has too many calls; what an object answers then is free");
        }
        // What follows a first wrong answer tells nothing.
        if (agree) {
            int got = answer(program, OF_PROGRAM[name], arguments);
            told.add(NAMES.get(name) + Arrays.toString(arguments) + " -> " + got);
            Due.is(run + ", call " + told.size() + ", " + NAMES.get(name), want, got);
            if (want != got) {
                agree = false;
                told.forEach(System.out::println);
            }
        }
        return want;
    }

    int ask(String name, int... arguments) {
        return ask(NAMES.indexOf(name), Arrays.copyOf(arguments, 3));
    }

    private static Object[] arguments(int name, int[] three) {
        Object[] boxed = {three[0], three[1], three[2]};
        return Arrays.copyOf(boxed, OF_MODEL[name].getParameterCount());
    }

    private static int answer(Object asked, Method method, Object[] arguments) {
        try {
            return (int) method.invoke(asked, arguments);
        } catch (ReflectiveOperationException e) {
            throw new IllegalStateException(method.getName() + Arrays.toString(arguments), e);
        }
    }

    boolean agree() {
        return agree;
    }

    /** To be asked what is there; this is no call. */
    Model model() {
        return model;
    }

    /** Whether the answer would be an error; this is no call. */
    boolean isError(int name, int[] three) {
        int want = answer(model.copy(), OF_MODEL[name], arguments(name, three));
        return want <= PeerStorage.INVALID_ARGUMENT && want >= PeerStorage.NOT_FOUND;
    }

    int calls() {
        return told.size();
    }

    /** Asks all that can be asked of the peers and files that exist, but what costs the model too much. */
    void look() {
        for (int what = 0; what <= 8; what++) {
            ask("count", what);
        }
        ask("tolerance");
        ask("leavers");
        for (int peer = 0; peer < 12; peer++) {
            if (ask("peerInfo", peer, 0) >= 0) {
                lookAtPeer(peer);
            }
        }
        for (int file = 0; file < 8; file++) {
            if (ask("fileInfo", file, 0) >= 0) {
                lookAtFile(file);
            }
        }
    }

    private void lookAtPeer(int peer) {
        for (int what = 1; what <= 5; what++) {
            ask("peerInfo", peer, what);
        }
        ask("endangered", peer);
        for (int other = 0; other < peer; other++) {
            ask("balance", other, peer);
        }
    }

    private void lookAtFile(int file) {
        for (int what = 3; what <= 6; what++) {
            ask("fileInfo", file, what);
        }
        int data = ask("fileInfo", file, 1);
        int fragments = data + ask("fileInfo", file, 2);
        for (int fragment = 0; fragment < fragments; fragment++) {
            ask("fragment", file, fragment, 0);
            ask("fragment", file, fragment, 1);
        }
        for (int index = 0; index < data; index++) {
            ask("read", file, index);
        }
    }
}
