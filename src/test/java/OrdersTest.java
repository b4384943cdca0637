import java.util.Random;

/**
 * All calls one after another: from each of four scenes every call, then every call, then every call,
 * and then all that can be seen is compared with the model, before and after some undos.
 */
public final class OrdersTest {
    private static final int CALLS = Both.NAMES.size();
    private static final int SCENES = 4;
    private static final int TRIES = 6;

    public static void main(String[] args) {
        boolean agree = true;
        for (int order = 0; order < CALLS * CALLS * CALLS; order++) {
            for (int scene = 0; scene < SCENES && agree; scene++) {
                agree = agree(order, scene);
            }
        }
        Due.end();
    }

    private static boolean agree(int order, int scene) {
        Both both = new Both("order " + order + " in scene " + scene);
        make(both, scene);
        Random random = new Random(order * SCENES + scene);
        SomeArguments some = new SomeArguments(random, 6, 6);
        for (int divisor = CALLS * CALLS; divisor > 0; divisor /= CALLS) {
            call(both, order / divisor % CALLS, some);
        }
        both.look();
        for (int undos = 1 + random.nextInt(5); undos > 0; undos--) {
            both.ask("undo");
        }
        both.look();
        lookAtWaiting(both);
        return both.agree();
    }

    /** With arguments that bring no error, if such are found soon. */
    private static void call(Both both, int name, SomeArguments some) {
        int[] three = some.of(Both.NAMES.get(name), both.model());
        for (int tried = 1; tried < TRIES && both.isError(name, three); tried++) {
            three = some.of(Both.NAMES.get(name), both.model());
        }
        both.ask(name, three);
    }

    /** The words that wait are seen by making a file of them. */
    private static void lookAtWaiting(Both both) {
        both.ask("crash", 5);
        int peer = both.ask("join", 40);
        int file = both.ask("store", peer, 4);
        for (int fragment = 0; fragment < 10; fragment++) {
            both.ask("fragment", file, fragment, 1);
        }
    }

    private static void make(Both both, int scene) {
        switch (scene) {
            case 0 -> makeSmall(both);
            case 1 -> makeVillage(both);
            case 2 -> makeTight(both);
            default -> makeRich(both);
        }
    }

    private static void peers(Both both, int... spaces) {
        for (int space : spaces) {
            both.ask("join", space);
        }
    }

    private static void file(Both both, int owner, int parity, int... words) {
        words(both, words);
        both.ask("store", owner, parity);
    }

    private static void words(Both both, int... words) {
        for (int word : words) {
            both.ask("word", word);
        }
    }

    /** Two peers, one file, a word that waits; the history has room. */
    private static void makeSmall(Both both) {
        peers(both, 3, 2);
        file(both, 0, 1, 7);
        words(both, 8);
    }

    /** One peer offline, one fragment spoiled, room on a last peer. */
    private static void makeVillage(Both both) {
        peers(both, 2, 2, 3, 3, 4);
        file(both, 0, 3, 11, 22);
        both.ask("setOnline", 3, 0);
        file(both, 1, 1, 33);
        both.ask("spoil", 0, 1, 9);
        words(both, 44);
        peers(both, 9);
    }

    /** No free space but one unit, lost fragments, a file that is not safe, a number between that is free. */
    private static void makeTight(Both both) {
        peers(both, 1, 2, 2, 1, 1);
        file(both, 1, 2, 200, 100);
        file(both, 2, 1, 3, 4, 5);
        both.ask("crash", 0);
        both.ask("join", 1);
        both.ask("crash", 3);
        both.ask("spoil", 0, 1, 128);
        words(both, 0, 255);
    }

    /** Different trusts, debts on both sides, three files, all words that can wait. */
    private static void makeRich(Both both) {
        peers(both, 5, 5, 5, 4, 4, 4);
        file(both, 0, 2, 1, 2, 3);
        file(both, 1, 2, 250, 251);
        both.ask("audit", 0, 2, 5);
        both.ask("audit", 1, 3, 0);
        both.ask("spoil", 0, 1, 100);
        both.ask("audit", 0, 1, 1);
        file(both, 1, 4, 60);
        both.ask("pay", 0, 2, 1);
        words(both, 9, 8, 7, 6, 5, 4);
    }
}
