import java.util.function.Supplier;

/** Which of several errors a call returns, and that it changes nothing then. */
public final class ErrorsEdgesTest {
    public static void main(String[] args) {
        invalidBeforeImpossible();
        invalidBeforeLimit();
        impossibleBeforeLimit();
        invalidBeforeMissing();
        nothingChanges();
        noSuchPeerOrFile();
        Due.end();
    }

    /** Peers 0 and 1, of which 1 is offline, eight files of peer 0, and so many words that wait. */
    private static PeerStorage eightFiles(int words) {
        PeerStorage x = Scene.alike(2, 40);
        for (int file = 0; file < 8; file++) {
            Scene.file(x, 0, 0, file);
        }
        x.setOnline(1, 0);
        for (int word = 0; word < words; word++) {
            x.word(word);
        }
        return x;
    }

    /** Of file 0 of peer 4 with the words 7 and 8, fragment 1 alone is left, on peer 1; one word waits. */
    private static PeerStorage onlyOne() {
        PeerStorage x = Scene.alike(5, 1);
        Scene.file(x, 4, 2, 7, 8);
        x.crash(0);
        x.crash(3);
        x.crash(2);
        x.word(5);
        return x;
    }

    private static void invalid(String what, Supplier<PeerStorage> scene, Scene.Call call) {
        Scene.refused(what, Due.INVALID, scene, call);
    }

    private static void impossible(String what, Supplier<PeerStorage> scene, Scene.Call call) {
        Scene.refused(what, Due.IMPOSSIBLE, scene, call);
    }

    private static void limit(String what, Supplier<PeerStorage> scene, Scene.Call call) {
        Scene.refused(what, Due.LIMIT, scene, call);
    }

    private static void missing(String what, Supplier<PeerStorage> scene, Scene.Call call) {
        Scene.refused(what, Due.MISSING, scene, call);
    }

    private static void invalidBeforeImpossible() {
        Due.terms("If several errors apply to a call, INVALID_ARGUMENT is returned rather than NOT_POSSIBLE,");
        invalid("pay too much to one that is owed nothing", Scene::village, x -> x.pay(3, 4, 1001));
        invalid("pay 0 to one that owes", Scene::village, x -> x.pay(4, 0, 0));
        invalid("pay to itself", Scene::village, x -> x.pay(0, 0, 1000));
        invalid("pay by none, to one that is owed nothing", Scene::village, x -> x.pay(5, 0, 1));
        invalid("store with parity 5, owner offline", Scene::village, x -> x.store(3, 5));
        invalid("store with parity -1, owner offline", Scene::village, x -> x.store(3, -1));
        invalid("audit with seed 257 by one offline", Scene::village, x -> x.audit(3, 0, 257));
        invalid("audit with seed -1 of one offline", Scene::village, x -> x.audit(0, 3, -1));
        invalid("audit of itself, offline", Scene::village, x -> x.audit(3, 3, 0));
        invalid("audit of none by one offline", Scene::village, x -> x.audit(3, 5, 0));
        invalid("audit by none of one offline", Scene::village, x -> x.audit(5, 3, 0));
        invalid("store with parity 5, no words", () -> Scene.alike(1, 1), x -> x.store(0, 5));
        invalid("store of none, no words", () -> Scene.alike(1, 1), x -> x.store(1, 0));
        invalid("read of word 2, not safe", ErrorsEdgesTest::onlyOne, x -> x.read(0, 2));
        invalid("read of word -1, not safe", ErrorsEdgesTest::onlyOne, x -> x.read(0, -1));
        invalid("spoil of a lost one by 0", ErrorsEdgesTest::onlyOne, x -> x.spoil(0, 0, 0));
        invalid("spoil of a lost one by 257", ErrorsEdgesTest::onlyOne, x -> x.spoil(0, 3, 257));
        // The last value in its range is not possible in each of these.
        impossible("pay 1000 to one that is owed nothing", Scene::village, x -> x.pay(3, 4, 1000));
        impossible("pay 1 to one that owes", Scene::village, x -> x.pay(4, 0, 1));
        impossible("store with parity 4, owner offline", Scene::village, x -> x.store(3, 4));
        impossible("audit with seed 256 by one offline", Scene::village, x -> x.audit(3, 0, 256));
        impossible("audit with seed 0 of one offline", Scene::village, x -> x.audit(0, 3, 0));
        impossible("read of word 0, not safe", ErrorsEdgesTest::onlyOne, x -> x.read(0, 0));
        impossible("spoil of a lost one by 1", ErrorsEdgesTest::onlyOne, x -> x.spoil(0, 0, 1));
        impossible("spoil of a lost one by 256", ErrorsEdgesTest::onlyOne, x -> x.spoil(0, 3, 256));
        impossible("repair, not safe", ErrorsEdgesTest::onlyOne, x -> x.repair(0));
    }

    private static void invalidBeforeLimit() {
        Due.terms("INVALID_ARGUMENT is returned rather than NOT_POSSIBLE, NOT_POSSIBLE rather than LIMIT_REACHED,");
        invalid("join with space 0 as the thirteenth", Scene::full, x -> x.join(0));
        invalid("join with space 41 as the thirteenth", Scene::full, x -> x.join(41));
        invalid("word -1 as the seventh", Scene::full, x -> x.word(-1));
        invalid("word 256 as the seventh", Scene::full, x -> x.word(256));
        invalid("store with parity 5 as the ninth", Scene::full, x -> x.store(0, 5));
        invalid("store with parity -1 as the ninth", Scene::full, x -> x.store(11, -1));
        invalid("store by none as the ninth", Scene::full, x -> x.store(12, 0));
        limit("join with space 1 as the thirteenth", Scene::full, x -> x.join(1));
        limit("join with space 40 as the thirteenth", Scene::full, x -> x.join(40));
        limit("word 0 as the seventh", Scene::full, x -> x.word(0));
        limit("word 255 as the seventh", Scene::full, x -> x.word(255));
        limit("store with parity 0 as the ninth", Scene::full, x -> x.store(0, 0));
        limit("store with parity 4 as the ninth", Scene::full, x -> x.store(11, 4));
    }

    private static void impossibleBeforeLimit() {
        Due.terms("NOT_POSSIBLE rather than LIMIT_REACHED,");
        impossible("a ninth file without words", () -> eightFiles(0), x -> x.store(0, 0));
        impossible("a ninth file without words, owner offline", () -> eightFiles(0), x -> x.store(1, 4));
        impossible("a ninth file, owner offline", () -> eightFiles(1), x -> x.store(1, 0));
        limit("a ninth file", () -> eightFiles(1), x -> x.store(0, 0));
        invalid("a ninth file without words, owner offline, parity 5", () -> eightFiles(0), x -> x.store(1, 5));
        invalid("a ninth file without words, no owner", () -> eightFiles(0), x -> x.store(2, 0));
    }

    private static void invalidBeforeMissing() {
        // No call can return both LIMIT_REACHED and NOT_FOUND; these can return NOT_FOUND at all.
        Due.terms("and LIMIT_REACHED rather than NOT_FOUND.");
        invalid("a lost fragment, what 2", ErrorsEdgesTest::onlyOne, x -> x.fragment(0, 0, 2));
        invalid("a lost fragment, what -1", ErrorsEdgesTest::onlyOne, x -> x.fragment(0, 3, -1));
        invalid("a fragment beyond a lost one", ErrorsEdgesTest::onlyOne, x -> x.fragment(0, 4, 0));
        invalid("decode from lost ones, word 2", ErrorsEdgesTest::onlyOne, x -> x.decode(0, 9, 2));
        invalid("decode from lost ones, word -1", ErrorsEdgesTest::onlyOne, x -> x.decode(0, 9, -1));
        invalid("decode from one lost one", ErrorsEdgesTest::onlyOne, x -> x.decode(0, 1, 0));
        invalid("decode from three, one of them lost", ErrorsEdgesTest::onlyOne, x -> x.decode(0, 7, 0));
        invalid("decode from a lost one and one beyond", ErrorsEdgesTest::onlyOne, x -> x.decode(0, 17, 0));
        missing("a lost fragment, what 0", ErrorsEdgesTest::onlyOne, x -> x.fragment(0, 0, 0));
        missing("a lost fragment, what 1", ErrorsEdgesTest::onlyOne, x -> x.fragment(0, 3, 1));
        missing("decode from lost ones, word 0", ErrorsEdgesTest::onlyOne, x -> x.decode(0, 9, 0));
        missing("decode from lost ones, word 1", ErrorsEdgesTest::onlyOne, x -> x.decode(0, 9, 1));
        missing("decode from one that is lost and one that is not", ErrorsEdgesTest::onlyOne, x -> x.decode(0, 3, 1));
    }

    /** Peers 0 and 1, of which 1 is offline; three states in the history, so that it has room; three words wait. */
    private static PeerStorage young() {
        PeerStorage x = Scene.alike(1, 1);
        Scene.words(x, 254, 255);
        x.join(1);
        x.word(0);
        x.setOnline(1, 0);
        x.undo();
        x.setOnline(1, 0);
        return x;
    }

    private static void nothingChanges() {
        Due.terms("A call that returns an error changes nothing.");
        invalid("join", ErrorsEdgesTest::young, x -> x.join(41));
        invalid("leave", ErrorsEdgesTest::young, x -> x.leave(2));
        invalid("crash", ErrorsEdgesTest::young, x -> x.crash(2));
        invalid("setOnline", ErrorsEdgesTest::young, x -> x.setOnline(1, 2));
        invalid("pay", ErrorsEdgesTest::young, x -> x.pay(0, 1, 0));
        invalid("peerInfo", ErrorsEdgesTest::young, x -> x.peerInfo(0, 6));
        invalid("balance", ErrorsEdgesTest::young, x -> x.balance(0, 0));
        invalid("word", ErrorsEdgesTest::young, x -> x.word(256));
        invalid("store", ErrorsEdgesTest::young, x -> x.store(0, 5));
        invalid("delete", ErrorsEdgesTest::young, x -> x.delete(0));
        invalid("fileInfo", ErrorsEdgesTest::young, x -> x.fileInfo(0, 0));
        invalid("fragment", ErrorsEdgesTest::young, x -> x.fragment(0, 0, 0));
        invalid("read", ErrorsEdgesTest::young, x -> x.read(0, 0));
        invalid("decode", ErrorsEdgesTest::young, x -> x.decode(0, 1, 0));
        invalid("spoil", ErrorsEdgesTest::young, x -> x.spoil(0, 0, 1));
        invalid("audit", ErrorsEdgesTest::young, x -> x.audit(0, 1, 257));
        invalid("passingSeeds", ErrorsEdgesTest::young, x -> x.passingSeeds(0, 0));
        invalid("repair", ErrorsEdgesTest::young, x -> x.repair(0));
        invalid("repairAll", ErrorsEdgesTest::young, x -> x.repairAll(6));
        invalid("endangered", ErrorsEdgesTest::young, x -> x.endangered(2));
        invalid("count", ErrorsEdgesTest::young, x -> x.count(9));
        impossible("leave when offline", ErrorsEdgesTest::young, x -> x.leave(1));
        impossible("pay of nothing", ErrorsEdgesTest::young, x -> x.pay(0, 1, 1));
        impossible("store of one offline", ErrorsEdgesTest::young, x -> x.store(1, 0));
        impossible("audit of one offline", ErrorsEdgesTest::young, x -> x.audit(0, 1, 0));
        // A refused call many times over, and the latest change can still be taken back.
        PeerStorage x = young();
        for (int time = 0; time < 20; time++) {
            Due.is("leave when offline", Due.IMPOSSIBLE, x.leave(1));
            Due.is("join with space 0", Due.INVALID, x.join(0));
        }
        Due.is("undo", 2, x.undo());
        Due.is("peer 1 is online again", 1, x.peerInfo(1, 2));
        Due.is("undo again", 1, x.undo());
        Due.is("peer 1 is gone", Due.INVALID, x.peerInfo(1, 2));
        Due.is("the words that waited then", 2, x.count(6));
    }

    private static void noSuchPeerOrFile() {
        Due.terms("If a peer or a file with a certain number does not exist, this is INVALID_ARGUMENT.");
        PeerStorage x = Scene.gaps();
        for (int peer = 0; peer < 12; peer++) {
            int due = peer == 0 || peer == 2 || peer == 4 ? 9 : Due.INVALID;
            Due.is("space of peer " + peer, due, x.peerInfo(peer, 0));
        }
        for (int file = 0; file < 8; file++) {
            int due = file == 0 || file == 2 ? 1 : Due.INVALID;
            Due.is("words of file " + file, due, x.fileInfo(file, 1));
        }
        // A number that comes to be used, and then is not any more.
        Due.is("join", 1, x.join(3));
        Due.is("space of peer 1 now", 3, x.peerInfo(1, 0));
        x.crash(1);
        Due.is("space of peer 1 then", Due.INVALID, x.peerInfo(1, 0));
        Due.is("store", 1, x.store(0, 0));
        Due.is("words of file 1 now", 1, x.fileInfo(1, 1));
        x.delete(1);
        Due.is("words of file 1 then", Due.INVALID, x.fileInfo(1, 1));
        Due.is("no fragment of it", Due.INVALID, x.fragment(1, 0, 0));
    }
}
