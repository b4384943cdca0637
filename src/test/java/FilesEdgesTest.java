/** The boundary cases of promises 9 to 15: the calls on files. */
public final class FilesEdgesTest {
    public static void main(String[] args) {
        wordRange();
        wordNumber();
        storePlaces();
        storeParity();
        storeAnswers();
        deleteFrees();
        deleteAnswers();
        fileInfoRange();
        fragmentRange();
        fragmentAnswers();
        readRange();
        readAnswers();
        decodeSets();
        decodeAnswers();
        decodeRefused();
        Due.end();
    }

    private static PeerStorage waiting(int number) {
        PeerStorage x = Scene.alike(6, 9);
        for (int i = 0; i < number; i++) {
            x.word(255 - i);
        }
        return x;
    }

    private static void wordRange() {
        Due.promise(9, "`word`: 0 to 255");
        for (int word : new int[] {0, 255}) {
            PeerStorage x = Scene.alike(1, 1);
            Due.is("word(" + word + ")", 1, x.word(word));
            x.store(0, 0);
            Due.is("read of " + word, word, x.read(0, 0));
        }
        Due.promise(9, "INVALID_ARGUMENT if word is out of range;");
        Scene.outside("word", 0, 255, PeerStorage::new, PeerStorage::word);
        Scene.outside("word after five", 0, 255, () -> waiting(5), PeerStorage::word);
    }

    private static void wordNumber() {
        Due.promise(9, "Appends a data word to the words that wait for a new file. (This is no change.)");
        PeerStorage x = waiting(0);
        for (int number = 1; number <= 6; number++) {
            Due.is("word", number, x.word(10 * number));
            Due.is("states in the history", 5, x.count(7));
        }
        x.store(0, 0);
        for (int index = 0; index < 6; index++) {
            Due.is("word " + index + " in its order", 10 * (index + 1), x.read(0, index));
        }
        Due.is("undo takes back the change before the word", 4, undoOfJoinAfterWord());
        PeerStorage y = new PeerStorage();
        y.word(1);
        Due.is("a word leaves nothing to undo", Due.IMPOSSIBLE, y.undo());
        Due.is("and waits still", 1, y.count(6));
        Due.promise(9, "Returns how many words wait;");
        Due.is("the first word", 1, new PeerStorage().word(0));
        Due.is("the sixth word", 6, waiting(5).word(0));
        PeerStorage z = waiting(6);
        z.store(0, 0);
        Due.is("the first word for the next file", 1, z.word(0));
        Due.promise(9, "LIMIT_REACHED if 6 words wait.");
        Scene.refused("the seventh word, 0", Due.LIMIT, () -> waiting(6), w -> w.word(0));
        Scene.refused("the seventh word, 255", Due.LIMIT, Scene::full, w -> w.word(255));
        z.undo();
        Due.is("the seventh word when six wait again by undo", Due.LIMIT, z.word(0));
    }

    private static int undoOfJoinAfterWord() {
        PeerStorage x = waiting(0);
        x.word(1);
        int left = x.undo();
        Due.is("the word that came after the change", 0, x.count(6));
        Due.is("the peer that joined by it", 5, x.count(0));
        return left;
    }

    private static void storePlaces() {
        Due.promise(10, "Makes a file of the words that wait, and places all its fragments by ascending numbers; "
            + "those that cannot be placed are lost. Then no words wait.");
        for (int places = 0; places <= 10; places++) {
            PeerStorage x = onlineOfTwelve(places);
            Scene.words(x, 1, 2, 3, 4, 5, 6);
            Due.is("store on " + places, 1, x.store(11, 4));
            Due.is("words that wait", 0, x.count(6));
            Due.is("stored on " + places, places, x.fileInfo(1, 3));
            for (int i = 0; i < 10; i++) {
                Due.is("fragment " + i + " on " + places, i < places ? i : Due.MISSING, x.fragment(1, i, 0));
            }
        }
    }

    /** Peer 11 is full with a file of its own; of the others, so many are online, with a unit each. */
    private static PeerStorage onlineOfTwelve(int number) {
        PeerStorage x = Scene.alike(12, 1);
        for (int peer = 0; peer < 11; peer++) {
            x.setOnline(peer, 0);
        }
        Scene.file(x, 11, 0, 1);
        for (int peer = 0; peer < number; peer++) {
            x.setOnline(peer, 1);
        }
        return x;
    }

    private static void storeParity() {
        Due.promise(10, "`parity`: 0 to 4");
        Scene.changed("store(0, 0)", 2, Scene::village, x -> x.store(0, 0));
        Scene.changed("store(0, 4)", 2, Scene::village, x -> x.store(0, 4));
        Scene.outside("store with parity", 0, 4, Scene::village, (x, parity) -> x.store(0, parity));
        for (int parity = 0; parity <= 4; parity++) {
            PeerStorage x = Scene.village();
            x.store(0, parity);
            Due.is("parity words", parity, x.fileInfo(2, 2));
        }
    }

    private static PeerStorage withFiles(int number, int words) {
        PeerStorage x = Scene.alike(2, 40);
        for (int file = 0; file < number; file++) {
            Scene.file(x, 0, 0, file);
        }
        x.setOnline(1, 0);
        for (int i = 0; i < words; i++) {
            x.word(i);
        }
        return x;
    }

    private static void storeAnswers() {
        Due.promise(10, "Returns the number of the file; INVALID_ARGUMENT; NOT_POSSIBLE if no words wait, "
            + "or the owner is offline; LIMIT_REACHED if there are 8 files.");
        Scene.changed("the first file, one word", 0, () -> withFiles(0, 1), x -> x.store(0, 0));
        Scene.changed("the eighth file, six words", 7, () -> withFiles(7, 6), x -> x.store(0, 4));
        Scene.changed("a file in a gap", 1, Scene::gaps, x -> x.store(4, 4));
        Scene.refused("a ninth file", Due.LIMIT, () -> withFiles(8, 1), x -> x.store(0, 0));
        Scene.refused("a ninth file, all full", Due.LIMIT, Scene::full, x -> x.store(11, 4));
        Scene.refused("no words", Due.IMPOSSIBLE, () -> withFiles(0, 0), x -> x.store(0, 0));
        Scene.refused("owner offline", Due.IMPOSSIBLE, () -> withFiles(0, 1), x -> x.store(1, 0));
        Scene.refused("no words, owner offline", Due.IMPOSSIBLE, () -> withFiles(0, 0), x -> x.store(1, 4));
        PeerStorage x = withFiles(0, 1);
        x.store(0, 0);
        Due.is("no words after the first file", Due.IMPOSSIBLE, x.store(0, 0));
        x.setOnline(1, 1);
        x.word(5);
        Due.is("owner online again", 1, x.store(1, 0));
        PeerStorage y = Scene.alike(12, 1);
        y.word(3);
        Due.is("the twelfth peer as owner", 0, y.store(11, 0));
        Due.is("its file", 11, y.fileInfo(0, 0));
        Due.promise(10, "`owner`: number of a peer");
        Scene.noSuchPeer("store", (v, owner) -> v.store(owner, 0));
    }

    private static void deleteFrees() {
        Due.promise(11, "Deletes a file with its fragments.");
        PeerStorage x = Scene.village();
        x.setOnline(0, 0);
        x.setOnline(4, 0);
        Due.is("a file that is not safe, its owner offline", 0, x.fileInfo(0, 5));
        Due.is("delete of it", 1, x.delete(0));
        int[] free = {2, 2, 2, 3, 3};
        for (int peer = 0; peer < 5; peer++) {
            Due.is("free space of " + peer + ", online or not", free[peer], x.peerInfo(peer, 1));
        }
        Due.is("nothing spoiled is left", 0, x.count(4));
        Due.is("debts stay", 4, x.peerInfo(0, 5));
        Due.is("the words that wait stay", 1, x.count(6));
        PeerStorage y = Scene.alike(1, 1);
        Scene.file(y, 0, 0, 1);
        Scene.file(y, 0, 4, 1, 2, 3, 4, 5, 6);
        Due.is("delete of a file without a stored fragment", 1, y.delete(1));
        Due.is("free space stays", 0, y.peerInfo(0, 1));
        Due.is("delete of a file with one", 0, y.delete(0));
        Due.is("free space then", 1, y.peerInfo(0, 1));
    }

    private static void deleteAnswers() {
        Due.promise(11, "Returns the number of files that remain; INVALID_ARGUMENT.");
        PeerStorage x = Scene.full();
        int[] order = {7, 0, 3, 4, 1, 6, 5, 2};
        for (int i = 0; i < 8; i++) {
            Due.is("delete(" + order[i] + ")", 7 - i, x.delete(order[i]));
            Due.is("delete(" + order[i] + ") again", Due.INVALID, x.delete(order[i]));
        }
        Due.is("all space is free", 12 * 40, x.count(5));
        Scene.changed("delete(0)", 7, Scene::full, y -> y.delete(0));
        Scene.changed("delete(7)", 7, Scene::full, y -> y.delete(7));
        Scene.changed("delete of the only one", 0, () -> withFiles(1, 0), y -> y.delete(0));
        Due.promise(11, "`file`: number of the file");
        Scene.noSuchFile("delete", PeerStorage::delete);
    }

    private static void fileInfoRange() {
        Due.promise(12, "`what`: 0: its owner; 1: k; 2: m; 3: the number of its stored fragments; "
            + "4: of these, the correct ones on online peers; 5: 1 if it is safe, else 0; 6: its reserve");
        Scene.outside("fileInfo(0, ..)", 0, 6, Scene::full, (x, what) -> x.fileInfo(0, what));
        Due.promise(12, "`file`: number of the file");
        Scene.noSuchFile("fileInfo 0", (x, file) -> x.fileInfo(file, 0));
        Scene.noSuchFile("fileInfo 6", (x, file) -> x.fileInfo(file, 6));
        Scene.noSuchFile("fileInfo 7", (x, file) -> x.fileInfo(file, 7));
        Due.promise(12, "Returns the value; INVALID_ARGUMENT.");
        int[] last = {7, 6, 4, 10, 10, 1, 4};
        for (int what = 0; what <= 6; what++) {
            int w = what;
            Scene.asked("fileInfo(7, " + w + ")", last[w], Scene::full, x -> x.fileInfo(7, w));
        }
        PeerStorage x = Scene.full();
        for (int peer = 0; peer < 12; peer++) {
            x.setOnline(peer, 0);
        }
        int[] offline = {7, 6, 4, 10, 0, 0, -6};
        for (int what = 0; what <= 6; what++) {
            Due.is("all offline: fileInfo(7, " + what + ")", offline[what], x.fileInfo(7, what));
        }
        PeerStorage y = Scene.alike(1, 1);
        Scene.file(y, 0, 0, 9);
        Scene.file(y, 0, 0, 9);
        int[][] small = {{0, 1, 0, 1, 1, 1, 0}, {0, 1, 0, 0, 0, 0, -1}};
        for (int what = 0; what <= 6; what++) {
            Due.is("one fragment: fileInfo(0, " + what + ")", small[0][what], y.fileInfo(0, what));
            Due.is("one lost: fileInfo(1, " + what + ")", small[1][what], y.fileInfo(1, what));
        }
    }

    private static void fragmentRange() {
        Due.promise(13, "`fragment`: 0 to k + m - 1");
        Scene.outside("fragment of ten", 0, 9, Scene::full, (x, fragment) -> x.fragment(7, fragment, 0));
        Scene.outside("fragment of two", 0, 1, Scene::gaps, (x, fragment) -> x.fragment(0, fragment, 1));
        Scene.asked("the first of ten", 10, Scene::full, x -> x.fragment(7, 0, 0));
        Scene.asked("the last of ten", 7, Scene::full, x -> x.fragment(7, 9, 0));
        Due.promise(13, "`what`: 0: the peer; 1: its value as it is stored");
        Scene.outside("fragment what", 0, 1, Scene::full, (x, what) -> x.fragment(0, 0, what));
        // 210 * 441 + 0 + 8 + 54 + 192 + 500 + 1080 is 367 * 257 + 125.
        Scene.asked("the value of the last one", 125, Scene::full, x -> x.fragment(7, 9, 1));
        Due.promise(13, "`file`: number of the file");
        Scene.noSuchFile("fragment", (x, file) -> x.fragment(file, 0, 0));
    }

    /** File 0 of peer 4 with the words 7 and 8 on peers 0 to 3; fragments 0 and 3 are lost. */
    private static PeerStorage endsLost() {
        PeerStorage x = Scene.alike(5, 1);
        Scene.file(x, 4, 2, 7, 8);
        x.crash(0);
        x.crash(3);
        return x;
    }

    private static void fragmentAnswers() {
        Due.promise(13, "Returns the number; INVALID_ARGUMENT; NOT_FOUND if the fragment is lost.");
        for (int what = 0; what <= 1; what++) {
            int w = what;
            Scene.refused("the first one, lost", Due.MISSING, FilesEdgesTest::endsLost, x -> x.fragment(0, 0, w));
            Scene.refused("the last one, lost", Due.MISSING, FilesEdgesTest::endsLost, x -> x.fragment(0, 3, w));
            Scene.refused("beyond it", Due.INVALID, FilesEdgesTest::endsLost, x -> x.fragment(0, 4, w));
        }
        PeerStorage x = endsLost();
        x.setOnline(1, 0);
        Due.is("one that is offline is not lost", 1, x.fragment(0, 1, 0));
        Due.is("one that is offline has its value", 8, x.fragment(0, 1, 1));
        x.spoil(0, 1, 249);
        Due.is("one that is spoiled to 0", 0, x.fragment(0, 1, 1));
        x.spoil(0, 1, 256);
        Due.is("one that is spoiled to 256", 256, x.fragment(0, 1, 1));
        x.crash(1);
        Due.is("one that is lost now", Due.MISSING, x.fragment(0, 1, 1));
        x.undo();
        Due.is("one that is back", 256, x.fragment(0, 1, 1));
    }

    private static void readRange() {
        Due.promise(14, "`index`: 0 to k - 1");
        Scene.outside("read of six", 0, 5, Scene::full, (x, index) -> x.read(7, index));
        Scene.outside("read of one", 0, 0, Scene::gaps, (x, index) -> x.read(0, index));
        for (int file : new int[] {0, 7}) {
            int f = file;
            Scene.asked("the first word", 30 * f, Scene::full, x -> x.read(f, 0));
            Scene.asked("the last word", 30 * f + 5, Scene::full, x -> x.read(f, 5));
        }
        Due.promise(14, "`file`: number of the file");
        Scene.noSuchFile("read", (x, file) -> x.read(file, 0));
    }

    private static void readAnswers() {
        Due.promise(14, "Reads a data word: from its own fragment if that is stored, correct and on an online peer, "
            + "otherwise from k others. (This changes nothing.)");
        Scene.asked("lost, read from two others", 7, FilesEdgesTest::endsLost, x -> x.read(0, 0));
        Scene.asked("its own fragment", 8, FilesEdgesTest::endsLost, x -> x.read(0, 1));
        PeerStorage x = Scene.alike(10, 1);
        Scene.file(x, 0, 4, 255, 0, 254, 1, 128, 127);
        int[] words = {255, 0, 254, 1, 128, 127};
        for (int peer = 0; peer < 4; peer++) {
            x.setOnline(peer, 0);
            x.spoil(0, peer, 1 + peer);
        }
        for (int index = 0; index < 6; index++) {
            Due.is("four bad, as many others as are needed", words[index], x.read(0, index));
        }
        Due.promise(14, "Returns the word; INVALID_ARGUMENT; "
            + "NOT_POSSIBLE if the file is not safe and the own fragment cannot be read either.");
        x.setOnline(9, 0);
        for (int index = 0; index < 6; index++) {
            int due = index < 4 ? Due.IMPOSSIBLE : words[index];
            Due.is("five bad: word " + index, due, x.read(0, index));
        }
        Due.is("five bad: no such word", Due.INVALID, x.read(0, 6));
        Scene.refused("not safe, own one lost", Due.IMPOSSIBLE, FilesEdgesTest::onlyOne, y -> y.read(0, 0));
        Scene.asked("not safe, own one good", 8, FilesEdgesTest::onlyOne, y -> y.read(0, 1));
        PeerStorage spoiled = onlyOne();
        spoiled.spoil(0, 1, 1);
        Due.is("not safe, own one spoiled", Due.IMPOSSIBLE, spoiled.read(0, 1));
        PeerStorage offline = onlyOne();
        offline.setOnline(1, 0);
        Due.is("not safe, own one offline", Due.IMPOSSIBLE, offline.read(0, 1));
    }

    /** Of file 0 with the words 7 and 8, fragment 1 alone is left, on peer 1. */
    private static PeerStorage onlyOne() {
        PeerStorage x = endsLost();
        x.crash(2);
        return x;
    }

    private static void decodeSets() {
        Due.promise(15, "`set`: a set of fragments, as a bit mask, with exactly k members");
        int[] wrong = {0, 1, 31, 62, 127, 1023, 1 << 10, 31 | 1 << 10, 63 << 10, 31 | 1 << 30, 31 | 1 << 31,
            -1, -64, Integer.MIN_VALUE, Integer.MAX_VALUE};
        for (int set : wrong) {
            Scene.refused("decode six from " + set, Due.INVALID, Scene::full, x -> x.decode(7, set, 0));
        }
        Scene.asked("from the lowest six", 210, Scene::full, x -> x.decode(7, 63, 0));
        Scene.asked("from the highest six", 210, Scene::full, x -> x.decode(7, 63 << 4, 0));
        // Two fragments of one word each: the sets 1 and 2 alone.
        for (int set = -2; set <= 9; set++) {
            int s = set;
            int due = s == 1 || s == 2 ? 10 : Due.INVALID;
            Scene.asked("decode one from " + s, due, Scene::gaps, x -> x.decode(0, s, 0));
        }
        Due.promise(15, "`index`: 0 to k - 1");
        Scene.outside("decode of six", 0, 5, Scene::full, (x, index) -> x.decode(7, 63, index));
        Scene.outside("decode of one", 0, 0, Scene::gaps, (x, index) -> x.decode(0, 1, index));
        for (int index = 0; index < 6; index++) {
            int i = index;
            Scene.asked("decode of word " + i, 210 + i, Scene::full, x -> x.decode(7, 63, i));
        }
        Due.promise(15, "`file`: number of the file");
        Scene.noSuchFile("decode", (x, file) -> x.decode(file, 1, 0));
        Scene.noSuchFile("decode six", (x, file) -> x.decode(file, 63, 0));
        Scene.noSuchFile("decode from none", (x, file) -> x.decode(file, 0, 0));
    }

    private static void decodeAnswers() {
        Due.promise(15, "Decodes the file from a set of its fragments as they are stored, correct or not, "
            + "wherever they are, and returns a data word. (This changes nothing.)");
        PeerStorage x = Scene.alike(4, 1);
        Scene.file(x, 0, 2, 7, 8);
        for (int peer = 0; peer < 4; peer++) {
            x.setOnline(peer, 0);
        }
        Due.is("from two that are offline", 8, x.decode(0, 12, 1));
        x.spoil(0, 2, 1);
        // 16 and 23: the second is 7, the first is 9.
        Due.is("from a spoiled one: word 0", 9, x.decode(0, 12, 0));
        Due.is("from a spoiled one: word 1", 7, x.decode(0, 12, 1));
        Due.is("a word of its own, beside a spoiled one", 7, x.decode(0, 5, 0));
        Due.is("the other one from the spoiled one", 9, x.decode(0, 5, 1));
        Due.promise(15, "Returns the number from 0 to 256 that the fragments of the set determine for this data word;");
        PeerStorage y = Scene.alike(2, 1);
        Scene.file(y, 0, 1, 255);
        y.spoil(0, 1, 1);
        Due.is("256", 256, y.decode(0, 2, 0));
        y.spoil(0, 1, 1);
        Due.is("0", 0, y.decode(0, 2, 0));
        Due.is("as it is stored in the other", 255, y.decode(0, 1, 0));
        PeerStorage z = Scene.alike(3, 1);
        Scene.file(z, 0, 1, 0, 1);
        z.spoil(0, 2, 256);
        Due.is("0 - 1", 256, z.decode(0, 6, 0));
        Due.is("0 - 0", 0, z.decode(0, 5, 1));
    }

    private static void decodeRefused() {
        Due.promise(15, "INVALID_ARGUMENT if an argument is out of range or set has not k members; "
            + "NOT_FOUND if a fragment of the set is lost.");
        // Fragments 0 and 3 of four are lost, so that 1 and 2 alone are a set to decode from.
        for (int set = 0; set < 32; set++) {
            int s = set;
            int due = s == 6 ? 7 : Integer.bitCount(s) == 2 && s < 16 ? Due.MISSING : Due.INVALID;
            Scene.asked("decode from " + s, due, FilesEdgesTest::endsLost, x -> x.decode(0, s, 0));
        }
        Scene.refused("lost, index 2", Due.INVALID, FilesEdgesTest::endsLost, x -> x.decode(0, 9, 2));
        Scene.refused("lost, index -1", Due.INVALID, FilesEdgesTest::endsLost, x -> x.decode(0, 9, -1));
        Scene.refused("lost, its own word there", Due.MISSING, FilesEdgesTest::endsLost, x -> x.decode(0, 3, 1));
    }
}
