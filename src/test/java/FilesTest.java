/** Promises 9 to 15: the calls on files. */
public final class FilesTest {
    public static void main(String[] args) {
        wordWaits();
        storeMakesFragments();
        storePlacesByTrustThenSpaceThenNumber();
        storeLosesWhatHasNoPlace();
        storeRefused();
        storeNumbers();
        storeForgetsEarlierWords();
        deleteFrees();
        fileInfoAnswers();
        fragmentAnswers();
        readAnswers();
        readRefused();
        decodeAnswers();
        decodeOfEverySet();
        decodeRefused();
        Due.end();
    }

    private static void wordWaits() {
        PeerStorage x = Scene.peers(5);
        int[] words = {0, 255, 1, 254, 7, 7};
        for (int i = 0; i < 6; i++) {
            Due.is("word", i + 1, x.word(words[i]));
        }
        Due.is("word as the seventh", Due.LIMIT, x.word(1));
        Due.is("word(256) as the seventh", Due.INVALID, x.word(256));
        Due.is("count(6)", 6, x.count(6));
        Due.is("word is no change", 1, x.count(7));
        Scene.refused("word(-1)", Due.INVALID, Scene::village, y -> y.word(-1));
        Scene.refused("word(256)", Due.INVALID, Scene::village, y -> y.word(256));
        for (int wild : Due.WILD) {
            Scene.refused("word(" + wild + ")", Due.INVALID, Scene::village, y -> y.word(wild));
        }
        PeerStorage y = Scene.village();
        Due.is("word beside one that waits", 2, y.word(45));
        Due.is("store of both", 2, y.store(0, 0));
        Due.is("the first of them", 44, y.read(2, 0));
        Due.is("the second of them", 45, y.read(2, 1));
    }

    private static void storeMakesFragments() {
        PeerStorage x = Scene.peers(1, 1, 1, 1, 1, 1, 1, 1, 1, 1);
        Due.is("store", 0, Scene.file(x, 0, 4, 255, 254, 253, 0, 1, 128));
        // Sums of w, w (i + 1), w (i + 1)^2, w (i + 1)^3 over all words, modulo 257.
        int[] due = {255, 254, 253, 0, 1, 128,
            (255 + 254 + 253 + 0 + 1 + 128) % 257,
            (255 + 2 * 254 + 3 * 253 + 5 + 6 * 128) % 257,
            (255 + 4 * 254 + 9 * 253 + 25 + 36 * 128) % 257,
            (255 + 8 * 254 + 27 * 253 + 125 + 216 * 128) % 257};
        for (int i = 0; i < 10; i++) {
            Due.is("peer of fragment " + i, i, x.fragment(0, i, 0));
            Due.is("value of fragment " + i, due[i], x.fragment(0, i, 1));
        }
        Due.is("no words wait", 0, x.count(6));
        Due.is("the owner owes for all but its own", 9, x.peerInfo(0, 5));
        Due.is("no word is left for another file", Due.IMPOSSIBLE, x.store(0, 0));
        PeerStorage y = Scene.peers(9, 9, 9);
        Scene.file(y, 0, 1, 1, 255);
        Due.is("a parity word of 256", 256, y.fragment(0, 2, 1));
        Scene.changed("store(0, 2)", 2, Scene::village, v -> v.store(0, 2));
    }

    private static void storePlacesByTrustThenSpaceThenNumber() {
        PeerStorage x = Scene.peers(9, 4, 4, 5, 1);
        Scene.file(x, 1, 4, 1);
        // Free now: 8, 3, 3, 4, 0. Peer 2 gains trust, peer 0 loses it.
        Due.is("audit(1, 2, 0)", 1, x.audit(1, 2, 0));
        x.spoil(0, 0, 1);
        Due.is("fragment 0 was on the greatest space", 0, x.fragment(0, 0, 0));
        Due.is("audit(1, 0, 0)", 0, x.audit(1, 0, 0));
        Scene.file(x, 3, 4, 1);
        int[] due = {2, 3, 1, 0, Due.MISSING};
        for (int i = 0; i < 5; i++) {
            Due.is("by trust, then space: fragment " + i, due[i], x.fragment(1, i, 0));
        }
        // Free now: 7, 2, 2, 3, 0; of peers 1 and 3 without the trust of 2, 3 has more space.
        x.setOnline(2, 0);
        Scene.file(x, 3, 4, 1);
        int[] then = {3, 1, 0, Due.MISSING, Due.MISSING};
        for (int i = 0; i < 5; i++) {
            Due.is("none on peers offline: fragment " + i, then[i], x.fragment(2, i, 0));
        }
        // Free now: 6, 1, 2, 2, 0 with trust 25, 50, 55, 50, 50: 2 by trust, then 3 by space.
        x.setOnline(2, 1);
        x.join(2);
        Scene.file(x, 3, 4, 1);
        int[] last = {2, 3, 5, 1, 0};
        for (int i = 0; i < 5; i++) {
            Due.is("then by number: fragment " + i, last[i], x.fragment(3, i, 0));
        }
    }

    private static void storeLosesWhatHasNoPlace() {
        PeerStorage x = Scene.peers(1, 1);
        Due.is("store of five on two", 0, Scene.file(x, 1, 3, 5, 6));
        Due.is("two are stored", 2, x.fileInfo(0, 3));
        Due.is("the third is lost", Due.MISSING, x.fragment(0, 2, 0));
        Due.is("the debt is for one", 1, x.balance(1, 0));
        Due.is("store with no space at all", 1, Scene.file(x, 0, 0, 5));
        Due.is("none is stored", 0, x.fileInfo(1, 3));
        Due.is("no debt for what is lost", 1, x.count(8));
    }

    private static PeerStorage withEightFiles() {
        PeerStorage x = Scene.peers(40, 40);
        for (int i = 0; i < 8; i++) {
            Scene.file(x, 0, 0, i);
        }
        x.setOnline(1, 0);
        return x;
    }

    private static PeerStorage withEightFilesAndAWord() {
        PeerStorage x = withEightFiles();
        x.word(1);
        return x;
    }

    private static void storeRefused() {
        Scene.refused("store of a ninth", Due.LIMIT, FilesTest::withEightFilesAndAWord, x -> x.store(0, 0));
        Scene.refused("store of a ninth, offline", Due.IMPOSSIBLE, FilesTest::withEightFilesAndAWord, x -> x.store(1, 0));
        Scene.refused("store of a ninth, no words", Due.IMPOSSIBLE, FilesTest::withEightFiles, x -> x.store(0, 0));
        Scene.refused("store of a ninth, parity 5", Due.INVALID, FilesTest::withEightFiles, x -> x.store(0, 5));
        Scene.refused("store when offline", Due.IMPOSSIBLE, Scene::village, x -> x.store(3, 0));
        Scene.refused("store(0, 5)", Due.INVALID, Scene::village, x -> x.store(0, 5));
        Scene.refused("store(3, 5), offline", Due.INVALID, Scene::village, x -> x.store(3, 5));
        Scene.refused("store(5, 0)", Due.INVALID, Scene::village, x -> x.store(5, 0));
        for (int wild : Due.WILD) {
            Scene.refused("store(wild, 0)", Due.INVALID, Scene::village, x -> x.store(wild, 0));
            Scene.refused("store(0, wild)", Due.INVALID, Scene::village, x -> x.store(0, wild));
        }
    }

    private static void storeNumbers() {
        PeerStorage x = withEightFiles();
        Due.is("delete(5)", 7, x.delete(5));
        Due.is("delete(2)", 6, x.delete(2));
        Due.is("store takes the lowest number", 2, Scene.file(x, 0, 0, 77));
        Due.is("store takes the next one", 5, Scene.file(x, 0, 0, 78));
        Due.is("read", 77, x.read(2, 0));
        Due.is("fragments of a number without a file", Due.INVALID, freed().fragment(0, 0, 0));
        // A file made of fewer words than the one that had its number before.
        PeerStorage y = Scene.peers(9, 9, 9, 9);
        Scene.file(y, 0, 1, 1, 2, 3);
        y.spoil(0, 0, 4);
        y.delete(0);
        Scene.file(y, 1, 0, 5);
        Due.is("a number used again: owner", 1, y.fileInfo(0, 0));
        Due.is("a number used again: k", 1, y.fileInfo(0, 1));
        Due.is("a number used again: m", 0, y.fileInfo(0, 2));
        Due.is("a number used again: value", 5, y.fragment(0, 0, 1));
        Due.is("a number used again: no more fragments", Due.INVALID, y.fragment(0, 1, 0));
        Due.is("a number used again: stored", 1, y.count(3));
        Due.is("a number used again: spoiled", 0, y.count(4));
    }

    private static PeerStorage freed() {
        PeerStorage x = Scene.village();
        x.delete(0);
        return x;
    }

    /** Words that waited and went into an earlier file are no part of a later, shorter one. */
    private static void storeForgetsEarlierWords() {
        PeerStorage x = Scene.peers(9, 9, 9, 9, 9, 9);
        Scene.file(x, 0, 0, 200, 201, 202, 203);
        Scene.file(x, 0, 2, 1, 2);
        Due.is("the sum of two words", 3, x.fragment(1, 2, 1));
        Due.is("their second sum", 5, x.fragment(1, 3, 1));
        Due.is("no fragment beyond", Due.INVALID, x.fragment(1, 4, 1));
    }

    private static void deleteFrees() {
        PeerStorage x = Scene.village();
        Due.is("delete(0)", 1, x.delete(0));
        Due.is("stored then", 2, x.count(3));
        Due.is("spoiled then", 0, x.count(4));
        Due.is("free space of peer 0", 2, x.peerInfo(0, 1));
        Due.is("debts stay", 6, x.count(8));
        Due.is("delete again", Due.INVALID, x.delete(0));
        Due.is("delete(1)", 0, x.delete(1));
        Due.is("an owner without files may leave", 0, x.leave(0));
        Scene.changed("delete(0)", 1, Scene::village, y -> y.delete(0));
        Scene.refused("delete(2)", Due.INVALID, Scene::village, y -> y.delete(2));
        Scene.refused("delete(8)", Due.INVALID, Scene::village, y -> y.delete(8));
        for (int wild : Due.WILD) {
            Scene.refused("delete(" + wild + ")", Due.INVALID, Scene::village, y -> y.delete(wild));
        }
    }

    private static void fileInfoAnswers() {
        int[][] due = {{0, 2, 3, 5, 3, 1, 1}, {1, 1, 1, 2, 2, 1, 1}};
        for (int file = 0; file < 2; file++) {
            for (int what = 0; what <= 6; what++) {
                int f = file;
                int w = what;
                Scene.asked("fileInfo(" + f + ", " + w + ")", due[f][w], Scene::village, x -> x.fileInfo(f, w));
            }
        }
        PeerStorage x = Scene.village();
        x.setOnline(4, 0);
        Due.is("reserve 0: safe", 1, x.fileInfo(0, 5));
        Due.is("reserve 0", 0, x.fileInfo(0, 6));
        x.setOnline(0, 0);
        Due.is("reserve -1: not safe", 0, x.fileInfo(0, 5));
        Due.is("reserve -1", -1, x.fileInfo(0, 6));
        x.setOnline(1, 0);
        Due.is("reserve -2", -2, x.fileInfo(0, 6));
        Due.is("all stay stored", 5, x.fileInfo(0, 3));
        Due.is("fileInfo(0, 7)", Due.INVALID, x.fileInfo(0, 7));
        Due.is("fileInfo(2, 0)", Due.INVALID, x.fileInfo(2, 0));
        Due.is("fileInfo(8, 0)", Due.INVALID, x.fileInfo(8, 0));
        for (int wild : Due.WILD) {
            Due.is("fileInfo(wild, 0)", Due.INVALID, x.fileInfo(wild, 0));
            Due.is("fileInfo(0, wild)", Due.INVALID, x.fileInfo(0, wild));
        }
    }

    private static void fragmentAnswers() {
        int[] on = {4, 2, 3, 0, 1};
        int[] values = {11, 31, 33, 55, 99};
        for (int i = 0; i < 5; i++) {
            int f = i;
            Scene.asked("fragment(0, " + f + ", 0)", on[f], Scene::village, x -> x.fragment(0, f, 0));
            Scene.asked("fragment(0, " + f + ", 1)", values[f], Scene::village, x -> x.fragment(0, f, 1));
        }
        PeerStorage x = Scene.village();
        x.crash(4);
        Due.is("fragment, lost, where", Due.MISSING, x.fragment(0, 0, 0));
        Due.is("fragment, lost, value", Due.MISSING, x.fragment(0, 0, 1));
        Due.is("fragment, lost, what 2", Due.INVALID, x.fragment(0, 0, 2));
        Due.is("fragment(0, 5, 0)", Due.INVALID, x.fragment(0, 5, 0));
        Due.is("fragment(1, 2, 0)", Due.INVALID, x.fragment(1, 2, 0));
        Due.is("fragment(2, 0, 0)", Due.INVALID, x.fragment(2, 0, 0));
        Due.is("fragment(8, 0, 0)", Due.INVALID, x.fragment(8, 0, 0));
        for (int wild : Due.WILD) {
            Due.is("fragment(wild, 0, 0)", Due.INVALID, x.fragment(wild, 0, 0));
            Due.is("fragment(0, wild, 0)", Due.INVALID, x.fragment(0, wild, 0));
            Due.is("fragment(0, 1, wild)", Due.INVALID, x.fragment(0, 1, wild));
        }
    }

    private static void readAnswers() {
        Scene.asked("read of its own fragment", 11, Scene::village, x -> x.read(0, 0));
        Scene.asked("read of a spoiled one from others", 22, Scene::village, x -> x.read(0, 1));
        PeerStorage x = Scene.village();
        x.crash(4);
        Due.is("read of a lost one from others", 11, x.read(0, 0));
        x.setOnline(0, 0);
        Due.is("read when not safe and lost", Due.IMPOSSIBLE, x.read(0, 0));
        Due.is("read when not safe and spoiled", Due.IMPOSSIBLE, x.read(0, 1));
        x.spoil(0, 1, 257 - 9);
        Due.is("correct again, so safe again", 11, x.read(0, 0));
        x.setOnline(1, 0);
        Due.is("not safe: the own fragment", 22, x.read(0, 1));
        Due.is("not safe: another", Due.IMPOSSIBLE, x.read(0, 0));
        x.setOnline(2, 0);
        Due.is("not safe: the own fragment is offline", Due.IMPOSSIBLE, x.read(0, 1));
    }

    private static void readRefused() {
        PeerStorage x = Scene.village();
        Due.is("read of a parity word", Due.INVALID, x.read(0, 2));
        Due.is("read(2, 0)", Due.INVALID, x.read(2, 0));
        Due.is("read(8, 0)", Due.INVALID, x.read(8, 0));
        for (int peer : new int[] {0, 1, 2, 4}) {
            x.setOnline(peer, 0);
        }
        Due.is("read(0, 2) when not safe", Due.INVALID, x.read(0, 2));
        for (int wild : Due.WILD) {
            Due.is("read(wild, 0)", Due.INVALID, x.read(wild, 0));
            Due.is("read(0, wild)", Due.INVALID, x.read(0, wild));
        }
    }

    private static void decodeAnswers() {
        Scene.asked("decode from the data", 11, Scene::village, x -> x.decode(0, 3, 0));
        Scene.asked("decode a spoiled one as it is", 31, Scene::village, x -> x.decode(0, 3, 1));
        Scene.asked("decode from the parity, one offline", 22, Scene::village, x -> x.decode(0, 12, 1));
        // From 31 and the sum 33: 33 - 31 = 2.
        Scene.asked("decode what a spoiled one says", 2, Scene::village, x -> x.decode(0, 6, 0));
        PeerStorage x = Scene.peers(9, 9, 9);
        Scene.file(x, 0, 1, 0, 1);
        x.spoil(0, 0, 256);
        Due.is("decode 256", 256, x.decode(0, 3, 0));
        Due.is("decode 1 - 256", 2, x.decode(0, 5, 1));
    }

    private static void decodeOfEverySet() {
        PeerStorage x = Scene.peers(1, 1, 1, 1, 1, 1, 1, 1, 1, 1);
        int[] words = {3, 250, 0, 99, 255, 128};
        Scene.file(x, 0, 4, words);
        int sets = 0;
        for (int set = 0; set < 1 << 10; set++) {
            if (Integer.bitCount(set) == 6) {
                Due.is("decode(0, " + set + ", ..)", words[sets % 6], x.decode(0, set, sets % 6));
                sets++;
            }
        }
        Due.is("sets of six among ten", 210, sets);
    }

    private static void decodeRefused() {
        PeerStorage x = Scene.village();
        x.crash(4);
        Due.is("decode with a lost one", Due.MISSING, x.decode(0, 3, 1));
        Due.is("decode without it", 31, x.decode(0, 6, 1));
        Due.is("decode with a lost one, index 2", Due.INVALID, x.decode(0, 3, 2));
        Due.is("decode from too few, one lost", Due.INVALID, x.decode(0, 1, 0));
        Due.is("decode from too many", Due.INVALID, x.decode(0, 14, 0));
        Due.is("decode from none", Due.INVALID, x.decode(0, 0, 0));
        Due.is("decode from a fragment beyond", Due.INVALID, x.decode(0, 32 + 2, 0));
        Due.is("decode from a negative set", Due.INVALID, x.decode(0, Integer.MIN_VALUE + 2, 0));
        Due.is("decode from one just beyond", Due.INVALID, x.decode(1, 4, 0));
        Due.is("decode(2, 1, 0)", Due.INVALID, x.decode(2, 1, 0));
        Due.is("decode(8, 1, 0)", Due.INVALID, x.decode(8, 1, 0));
        for (int wild : Due.WILD) {
            Due.is("decode(wild, 6, 0)", Due.INVALID, x.decode(wild, 6, 0));
            Due.is("decode(0, wild, 0)", Due.INVALID, x.decode(0, wild, 0));
            Due.is("decode(0, 6, wild)", Due.INVALID, x.decode(0, 6, wild));
        }
    }
}
