import java.util.function.Supplier;
import java.util.function.ToIntFunction;

/** Storages to start tests from, and what can be seen of a storage. */
final class Scene {
    private Scene() {
    }

    static PeerStorage peers(int... spaces) {
        PeerStorage x = new PeerStorage();
        for (int space : spaces) {
            x.join(space);
        }
        return x;
    }

    static int file(PeerStorage x, int owner, int parity, int... words) {
        for (int word : words) {
            x.word(word);
        }
        return x.store(owner, parity);
    }

    /**
     * Peers 0 to 4, peer 3 offline. File 0 of peer 0: 11 22 33 55 99 on peers 4 2 3 0 1, with
     * fragment 1 spoiled by 9. File 1 of peer 1: 33 33 on peers 4 2. One word waits.
     */
    static PeerStorage village() {
        PeerStorage x = peers(2, 2, 3, 3, 4);
        file(x, 0, 3, 11, 22);
        x.setOnline(3, 0);
        file(x, 1, 1, 33);
        x.spoil(0, 1, 9);
        x.word(44);
        return x;
    }

    /** All answers that change nothing, of the peers and files that exist, but for the history. */
    static String seen(PeerStorage x) {
        StringBuilder all = new StringBuilder("counts");
        for (int what = 0; what <= 8; what++) {
            all.append(' ').append(what == 7 ? "-" : x.count(what));
        }
        all.append(" tolerance ").append(x.tolerance()).append(" leavers ").append(x.leavers());
        for (int peer = 0; peer < 12; peer++) {
            if (x.peerInfo(peer, 0) >= 0) {
                addPeer(all, x, peer);
            }
        }
        for (int file = 0; file < 8; file++) {
            if (x.fileInfo(file, 0) >= 0) {
                addFile(all, x, file);
            }
        }
        return all.toString();
    }

    private static void addPeer(StringBuilder all, PeerStorage x, int peer) {
        all.append("; peer ").append(peer).append(':');
        for (int what = 0; what <= 5; what++) {
            all.append(' ').append(x.peerInfo(peer, what));
        }
        all.append(" endangers ").append(x.endangered(peer)).append(" owes");
        for (int other = 0; other < peer; other++) {
            all.append(' ').append(x.balance(peer, other));
        }
    }

    private static void addFile(StringBuilder all, PeerStorage x, int file) {
        all.append("; file ").append(file).append(':');
        for (int what = 0; what <= 6; what++) {
            all.append(' ').append(x.fileInfo(file, what));
        }
        all.append(" on");
        int fragments = x.fileInfo(file, 1) + x.fileInfo(file, 2);
        for (int fragment = 0; fragment < fragments; fragment++) {
            all.append(' ').append(x.fragment(file, fragment, 0));
            all.append('=').append(x.fragment(file, fragment, 1));
        }
    }

    /** The call answers the error that is due, and nothing that can be seen is changed by it. */
    static void refused(String what, int want, Supplier<PeerStorage> scene, ToIntFunction<PeerStorage> call) {
        PeerStorage x = scene.get();
        int states = x.count(7);
        String before = seen(x);
        Due.is(what, want, call.applyAsInt(x));
        Due.same(what + " left behind", before, seen(x));
        Due.is(what + ", then count(7)", states, x.count(7));
    }

    /** The call answers what is due and changes nothing that can be seen, not even the history. */
    static void asked(String what, int want, Supplier<PeerStorage> scene, ToIntFunction<PeerStorage> call) {
        refused(what, want, scene, call);
    }

    /** The call answers what is due, is a change, and undo takes all of it back. */
    static void changed(String what, int want, Supplier<PeerStorage> scene, ToIntFunction<PeerStorage> call) {
        PeerStorage x = scene.get();
        int states = x.count(7);
        String before = seen(x);
        Due.is(what, want, call.applyAsInt(x));
        Due.is(what + ", then count(7)", Math.min(states + 1, 5), x.count(7));
        Due.is(what + ", then undo()", Math.min(states, 4), x.undo());
        Due.same(what + ", taken back", before, seen(x));
    }
}
