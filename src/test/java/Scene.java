import java.util.ArrayList;
import java.util.List;
import java.util.function.Supplier;

/**
 * Storages to start tests from, and what can be seen of a storage. A scene is made anew for
 * every look, so that no object is used for more than the 512 calls of the document.
 */
final class Scene {
    /** A call that is looked at. */
    interface Call {
        int on(PeerStorage x);
    }

    /** A call with one argument left open. */
    interface CallWith {
        int on(PeerStorage x, int value);
    }

    private Scene() {
    }

    static PeerStorage peers(int... spaces) {
        PeerStorage x = new PeerStorage();
        for (int space : spaces) {
            x.join(space);
        }
        return x;
    }

    /** So many peers with the same space. */
    static PeerStorage alike(int number, int space) {
        PeerStorage x = new PeerStorage();
        for (int peer = 0; peer < number; peer++) {
            x.join(space);
        }
        return x;
    }

    static void words(PeerStorage x, int... words) {
        for (int word : words) {
            x.word(word);
        }
    }

    static int file(PeerStorage x, int owner, int parity, int... words) {
        words(x, words);
        return x.store(owner, parity);
    }

    /**
     * Peers 0 to 4, peer 3 offline. File 0 of peer 0: 11 22 33 55 99 on peers 4 2 3 0 1, with
     * fragment 1 spoiled by 9. File 1 of peer 1: 33 33 on peers 4 2. One word waits.
     */
    static PeerStorage village() {
        PeerStorage x = peers(2, 2, 3, 3, 4);
        file(x, 0, 3, 11, 22);
        x.setOnline(3, 0);
        file(x, 1, 1, 33);
        x.spoil(0, 1, 9);
        x.word(44);
        return x;
    }

    /** The village, with a sixth peer that has nine units. */
    static PeerStorage withRoom() {
        PeerStorage x = village();
        x.join(9);
        return x;
    }

    /** The village, with trust 25 of peer 2 by an audit that it has not passed. */
    static PeerStorage lowTrust() {
        PeerStorage x = village();
        x.audit(0, 2, 1);
        return x;
    }

    /**
     * Twelve peers, eight files with six words and four parity words, six words that wait, and a
     * full history. File f is owned by peer f; its fragment i is on peer (10 f + i) mod 12, and
     * its word i is 30 f + i.
     */
    static PeerStorage full() {
        PeerStorage x = alike(12, 40);
        for (int file = 0; file < 8; file++) {
            int first = 30 * file;
            file(x, file, 4, first, first + 1, first + 2, first + 3, first + 4, first + 5);
        }
        words(x, 250, 251, 252, 253, 254, 255);
        return x;
    }

    /**
     * Peers 0, 2 and 4; file 0 of peer 0: 10 10 on peers 0 2; file 2 of peer 2: 30 30 on peers 4 0;
     * a word waits. Peer 1 has left, 3 has crashed, and the join of 5 was undone; file 1 was
     * deleted, 3 was one of peer 3, and the storing of 4 was undone.
     */
    static PeerStorage gaps() {
        PeerStorage x = alike(5, 9);
        file(x, 0, 1, 10);
        file(x, 0, 1, 20);
        file(x, 2, 1, 30);
        file(x, 3, 1, 40);
        file(x, 0, 1, 50);
        x.undo();
        x.join(9);
        x.undo();
        x.delete(1);
        x.crash(3);
        x.leave(1);
        return x;
    }

    /** All answers that change nothing, of the peers and files that exist, but for the history. */
    static String seen(PeerStorage x) {
        StringBuilder all = new StringBuilder("counts");
        for (int what = 0; what <= 8; what++) {
            all.append(' ').append(what == 7 ? "-" : x.count(what));
        }
        all.append(" tolerance ").append(x.tolerance()).append(" leavers ").append(x.leavers());
        for (int peer = 0; peer < 12; peer++) {
            if (x.peerInfo(peer, 0) >= 0) {
                addPeer(all, x, peer);
            }
        }
        for (int file = 0; file < 8; file++) {
            if (x.fileInfo(file, 0) >= 0) {
                addFile(all, x, file);
            }
        }
        return all.toString();
    }

    private static void addPeer(StringBuilder all, PeerStorage x, int peer) {
        all.append("; peer ").append(peer).append(':');
        for (int what = 0; what <= 5; what++) {
            all.append(' ').append(x.peerInfo(peer, what));
        }
        all.append(" endangers ").append(x.endangered(peer)).append(" owes");
        for (int other = 0; other < peer; other++) {
            all.append(' ').append(x.balance(peer, other));
        }
    }

    private static void addFile(StringBuilder all, PeerStorage x, int file) {
        all.append("; file ").append(file).append(':');
        for (int what = 0; what <= 6; what++) {
            all.append(' ').append(x.fileInfo(file, what));
        }
        all.append(" on");
        int fragments = x.fileInfo(file, 1) + x.fileInfo(file, 2);
        for (int fragment = 0; fragment < fragments; fragment++) {
            all.append(' ').append(x.fragment(file, fragment, 0));
            all.append('=').append(x.fragment(file, fragment, 1));
        }
    }

    /** The words of all files as they are read. */
    private static String read(PeerStorage x) {
        StringBuilder all = new StringBuilder("read");
        for (int file = 0; file < 8; file++) {
            int data = x.fileInfo(file, 1);
            for (int index = 0; index < data; index++) {
                all.append(' ').append(x.read(file, index));
            }
        }
        return all.toString();
    }

    /** The words that wait, found by making a file of them; all else is lost by this. */
    static String waiting(PeerStorage x) {
        for (int peer = 0; peer < 12; peer++) {
            x.crash(peer);
        }
        for (int peer = 0; peer < 6; peer++) {
            x.join(1);
        }
        StringBuilder all = new StringBuilder("waiting");
        if (x.store(0, 0) == 0) {
            int data = x.fileInfo(0, 1);
            for (int index = 0; index < data; index++) {
                all.append(' ').append(x.read(0, index));
            }
        }
        return all.toString();
    }

    /** All that can be seen after the call, and then after each undo until the history is empty. */
    static List<String> states(Supplier<PeerStorage> scene, Call call) {
        List<String> states = new ArrayList<>();
        PeerStorage first = after(scene, call, 0);
        int number = first.count(7);
        for (int undone = 0; undone <= number; undone++) {
            String seen = seen(after(scene, call, undone));
            PeerStorage x = after(scene, call, undone);
            states.add(seen + "; " + read(x) + "; " + waiting(x));
        }
        return states;
    }

    private static PeerStorage after(Supplier<PeerStorage> scene, Call call, int undone) {
        PeerStorage x = scene.get();
        call.on(x);
        for (int time = 0; time < undone; time++) {
            x.undo();
        }
        return x;
    }

    private static List<String> states(Supplier<PeerStorage> scene) {
        return states(scene, x -> 0);
    }

    /** The call answers the error that is due, and nothing is changed by it, nor in the history. */
    static void refused(String what, int want, Supplier<PeerStorage> scene, Call call) {
        Due.is(what, want, call.on(scene.get()));
        Due.same(what + " left behind", String.join("\n  ", states(scene)), String.join("\n  ", states(scene, call)));
    }

    /** The call answers what is due and changes nothing, not even the history. */
    static void asked(String what, int want, Supplier<PeerStorage> scene, Call call) {
        refused(what, want, scene, call);
    }

    /** The call answers what is due, is a change, and undo takes all of it back. */
    static void changed(String what, int want, Supplier<PeerStorage> scene, Call call) {
        Due.is(what, want, call.on(scene.get()));
        List<String> before = states(scene);
        List<String> then = states(scene, call);
        // The state now, and at most five in the history.
        Due.is(what + ", states then", Math.min(before.size() + 1, 6), then.size());
        for (int undone = 1; undone < then.size(); undone++) {
            Due.same(what + ", and " + undone + " times undo", before.get(undone - 1), then.get(undone));
        }
    }

    /** Just outside the range and far outside, the call is refused as INVALID_ARGUMENT. */
    static void outside(String what, int low, int high, Supplier<PeerStorage> scene,
            CallWith call) {
        for (int value : new int[] {low - 1, high + 1, Integer.MIN_VALUE, Integer.MAX_VALUE}) {
            refused(what + " of " + value, Due.INVALID, scene, x -> call.on(x, value));
        }
    }

    /** Every number that is no peer's is refused: outside 0 to 11, left, crashed, undone, never used. */
    static void noSuchPeer(String what, CallWith call) {
        outside(what + " with peer", 0, 11, Scene::full, call);
        for (int peer : new int[] {1, 3, 5, 6, 11}) {
            refused(what + " without peer " + peer, Due.INVALID, Scene::gaps, x -> call.on(x, peer));
        }
    }

    /** Every number that is no file's is refused: outside 0 to 7, deleted, undone, never used. */
    static void noSuchFile(String what, CallWith call) {
        outside(what + " with file", 0, 7, Scene::full, call);
        for (int file : new int[] {1, 3, 4, 5, 7}) {
            refused(what + " without file " + file, Due.INVALID, Scene::gaps, x -> call.on(x, file));
        }
    }
}
