import java.util.Arrays;

/** The boundary cases that the section "Terms" names for peers, files, fragments, places and debts. */
public final class TermsEdgesTest {
    public static void main(String[] args) {
        use();
        constants();
        peerNumbers();
        peerState();
        freeSpace();
        fileNumbers();
        fileSizes();
        fragmentValues();
        fragmentsDetermine();
        fragmentPlaces();
        spoiledValues();
        spoiledAgain();
        safeFiles();
        reserves();
        placeByTrust();
        placeBySpaceThenNumber();
        placeOnlyWhereItMay();
        placeNowhere();
        balances();
        debtsForPlaces();
        debtsForRepairs();
        debtsOfThoseGone();
        debtsOfEachNumber();
        Due.end();
    }

    private static void use() {
        Due.terms("An object is used for at most 512 calls after it has been made; what later calls answer is free.");
        PeerStorage x = new PeerStorage();
        Due.is("call 1, join(40)", 0, x.join(40));
        for (int call = 2; call <= 510; call++) {
            Due.is("call " + call + ", setOnline", call == 2 ? 1 : (call + 1) % 2, x.setOnline(0, call % 2));
        }
        Due.is("call 511, undo()", 4, x.undo());
        Due.is("call 512, peerInfo(0, 2)", 1, x.peerInfo(0, 2));
        // What these answer is free, but they end, and none of them throws.
        for (int call = 513; call <= 2048; call++) {
            beyond(x, call);
        }
    }

    private static void beyond(PeerStorage x, int call) {
        switch (call % 12) {
            case 0, 1 -> x.join(1 + call % 40);
            case 2, 3 -> x.word(call % 256);
            case 4 -> x.store(call % 12, call % 5);
            case 5 -> x.repairAll(5);
            case 6 -> x.setOnline(call % 11, call / 12 % 2);
            case 7 -> x.spoil(call % 7, call % 5, 1 + call % 256);
            case 8 -> x.audit(call % 5, call % 7, call % 257);
            case 9 -> x.leavers();
            case 10 -> x.delete(call % 8);
            default -> x.crash(call % 17);
        }
    }

    private static void constants() {
        Due.terms("`INVALID_ARGUMENT = -10001`: An argument is out of its range, or there is no such peer or file.");
        Due.is("INVALID_ARGUMENT", -10001, PeerStorage.INVALID_ARGUMENT);
        Due.is("out of its range", -10001, new PeerStorage().join(0));
        Due.is("no such peer", -10001, new PeerStorage().crash(0));
        Due.is("no such file", -10001, new PeerStorage().delete(0));
        Due.terms("`NOT_POSSIBLE = -10002`: The call is not possible in the present state.");
        Due.is("NOT_POSSIBLE", -10002, PeerStorage.NOT_POSSIBLE);
        Due.is("not possible", -10002, new PeerStorage().undo());
        Due.terms("`LIMIT_REACHED = -10003`: A fixed limit has been reached.");
        Due.is("LIMIT_REACHED", -10003, PeerStorage.LIMIT_REACHED);
        Due.is("limit reached", -10003, Scene.full().join(1));
        Due.terms("`NOT_FOUND = -10004`: There is no such element or value.");
        Due.is("NOT_FOUND", -10004, PeerStorage.NOT_FOUND);
        PeerStorage x = Scene.alike(1, 1);
        Scene.file(x, 0, 1, 5);
        Due.is("not found", -10004, x.fragment(0, 1, 0));
    }

    private static void peerNumbers() {
        Due.terms("There are at most 12 peers, with different numbers from 0 to 11; "
            + "a peer that joins gets the lowest number that is free.");
        PeerStorage x = new PeerStorage();
        for (int peer = 0; peer < 12; peer++) {
            Due.is("join", peer, x.join(3));
            Due.is("peers", peer + 1, x.count(0));
        }
        Due.is("join as the thirteenth", Due.LIMIT, x.join(3));
        x.leave(11);
        Due.is("join when only 11 is free", 11, x.join(4));
        x.crash(0);
        Due.is("join when only 0 is free", 0, x.join(4));
        x.leave(11);
        x.crash(5);
        x.leave(0);
        int[] due = {0, 5, 11};
        for (int number : due) {
            Due.is("join with 0, 5 and 11 free", number, x.join(4));
        }
        Due.is("join as the thirteenth again", Due.LIMIT, x.join(3));
        x.undo();
        Due.is("a join that is undone frees its number", 11, x.join(5));
    }

    private static void peerState() {
        Due.terms("A peer has a space of 1 to 40 units, is online (initially) or not, "
            + "and has a trust from 0 to 100, initially 50.");
        PeerStorage x = Scene.peers(1, 40);
        for (int peer = 0; peer < 2; peer++) {
            Due.is("space", peer == 0 ? 1 : 40, x.peerInfo(peer, 0));
            Due.is("online", 1, x.peerInfo(peer, 2));
            Due.is("trust", 50, x.peerInfo(peer, 3));
        }
        // Another peer takes over the number, but not how it stood with the first one.
        Scene.file(x, 0, 0, 5);
        x.audit(0, 1, 0);
        x.setOnline(1, 0);
        x.crash(1);
        Due.is("join with the number of another", 1, x.join(1));
        Due.is("its space", 1, x.peerInfo(1, 0));
        Due.is("its free space", 1, x.peerInfo(1, 1));
        Due.is("it is online", 1, x.peerInfo(1, 2));
        Due.is("its trust", 50, x.peerInfo(1, 3));
    }

    private static void freeSpace() {
        Due.terms("A fragment takes one unit. The free space of a peer is its space minus the fragments on it.");
        for (int space = 1; space <= 9; space++) {
            PeerStorage x = Scene.alike(1, space);
            for (int file = 0; file < 8; file++) {
                Scene.file(x, 0, 0, file);
                int stored = Math.min(file + 1, space);
                Due.is("free space of " + space + " after file " + file, space - stored, x.peerInfo(0, 1));
                Due.is("fragments on " + space + " after file " + file, stored, x.count(3));
            }
            x.delete(0);
            Due.is("free space of " + space + " without file 0", space - Math.min(7, space - 1), x.peerInfo(0, 1));
            Scene.file(x, 0, 0, 8);
            Due.is("free space of " + space + " with another", space - Math.min(8, space), x.peerInfo(0, 1));
            Due.is("space is still", space, x.peerInfo(0, 0));
        }
    }

    private static void fileNumbers() {
        Due.terms("There are at most 8 files, with different numbers from 0 to 7; "
            + "a new file gets the lowest number that is free.");
        PeerStorage x = Scene.alike(1, 40);
        for (int file = 0; file < 8; file++) {
            Due.is("store", file, Scene.file(x, 0, 0, file));
            Due.is("files", file + 1, x.count(1));
        }
        Due.is("store of a ninth", Due.LIMIT, Scene.file(x, 0, 0, 8));
        x.delete(7);
        Due.is("store when only 7 is free", 7, x.store(0, 0));
        x.delete(0);
        Due.is("store when only 0 is free", 0, Scene.file(x, 0, 0, 9));
        x.delete(7);
        x.delete(3);
        x.delete(0);
        int[] due = {0, 3, 7};
        for (int number : due) {
            Due.is("store with 0, 3 and 7 free", number, Scene.file(x, 0, 0, 10));
        }
        x.undo();
        Due.is("a store that is undone frees its number", 7, x.store(0, 0));
        // Files of a peer that crashes are gone, and their numbers are free.
        PeerStorage y = Scene.alike(2, 40);
        for (int file = 0; file < 8; file++) {
            Scene.file(y, file % 2, 0, file);
        }
        y.crash(0);
        Due.is("files then", 4, y.count(1));
        for (int number = 0; number < 8; number += 2) {
            Due.is("store with the even numbers free", number, Scene.file(y, 1, 0, number));
        }
        Due.is("store of a ninth then", Due.LIMIT, Scene.file(y, 1, 0, 8));
    }

    private static void fileSizes() {
        Due.terms("A file has an owner (a peer), k data words (1 to 6) from 0 to 255, and m parity words (0 to 4); "
            + "together these are its k + m fragments, numbered from 0.");
        for (int k = 1; k <= 6; k++) {
            for (int m = 0; m <= 4; m++) {
                PeerStorage x = Scene.alike(12, 1);
                for (int i = 0; i < k; i++) {
                    Due.is("words that wait", i + 1, x.word(i % 2 == 0 ? 255 : 0));
                }
                String what = "file of " + k + " + " + m;
                Due.is(what, 0, x.store(11, m));
                Due.is(what + ": owner", 11, x.fileInfo(0, 0));
                Due.is(what + ": k", k, x.fileInfo(0, 1));
                Due.is(what + ": m", m, x.fileInfo(0, 2));
                Due.is(what + ": fragments", k + m, x.fileInfo(0, 3));
                Due.is(what + ": before its first fragment", Due.INVALID, x.fragment(0, -1, 0));
                Due.is(what + ": its first fragment", 0, x.fragment(0, 0, 0));
                Due.is(what + ": its last fragment", k + m - 1, x.fragment(0, k + m - 1, 0));
                Due.is(what + ": beyond its last fragment", Due.INVALID, x.fragment(0, k + m, 0));
            }
        }
    }

    private static void valuesAre(String what, int[] words, int... parity) {
        PeerStorage x = Scene.alike(12, 1);
        Scene.file(x, 0, 4, words);
        for (int i = 0; i < words.length; i++) {
            Due.is(what + ": fragment " + i, words[i], x.fragment(0, i, 1));
        }
        for (int j = 0; j < 4; j++) {
            Due.is(what + ": parity " + j, parity[j], x.fragment(0, words.length + j, 1));
        }
    }

    private static void fragmentValues() {
        Due.terms("Fragment i of a file, from 0 to k - 1, is data word i; fragment k + j, for j from 0 to m - 1, "
            + "is the sum of all data words, each multiplied by (i + 1) to the power of j, where i is its number, "
            + "in the prime field with 257 elements (numbers 0 to 256).");
        valuesAre("one word 0", new int[] {0}, 0, 0, 0, 0);
        valuesAre("one word 255", new int[] {255}, 255, 255, 255, 255);
        valuesAre("sum of 256", new int[] {255, 1}, 256, 0, 2, 6);
        valuesAre("sum of 257", new int[] {255, 2}, 0, 2, 6, 14);
        valuesAre("sum of 258", new int[] {255, 3}, 1, 4, 10, 22);
        valuesAre("second sum of 256", new int[] {0, 128}, 128, 256, 255, 253);
        valuesAre("second sum of 257", new int[] {1, 128}, 129, 0, 256, 254);
        valuesAre("second sum of 258", new int[] {2, 128}, 130, 1, 0, 255);
        valuesAre("third sum of 256", new int[] {0, 64}, 64, 128, 256, 255);
        valuesAre("fourth sum of 256", new int[] {0, 32}, 32, 64, 128, 256);
        valuesAre("fourth sum of 257", new int[] {1, 32}, 33, 65, 129, 0);
        valuesAre("factors of the sixth word", new int[] {0, 0, 0, 0, 0, 1}, 1, 6, 36, 216);
        // 255 is -2 in the field, so -2, -12, -72, -432 and -12, -42, -182, -882.
        valuesAre("sixth word 255", new int[] {0, 0, 0, 0, 0, 255}, 255, 245, 185, 82);
        valuesAre("six words 255", new int[] {255, 255, 255, 255, 255, 255}, 245, 215, 75, 146);
        valuesAre("six words 0", new int[] {0, 0, 0, 0, 0, 0}, 0, 0, 0, 0);
        // The words of a longer file that was made before are no part of a shorter one.
        for (int k = 1; k < 6; k++) {
            PeerStorage x = Scene.alike(12, 2);
            Scene.file(x, 0, 0, 255, 255, 255, 255, 255, 255);
            Scene.file(x, 0, 4, new int[k]);
            for (int i = 0; i < k + 4; i++) {
                Due.is(k + " words 0 after six words 255: fragment " + i, 0, x.fragment(1, i, 1));
            }
        }
    }

    private static void fragmentsDetermine() {
        Due.terms("So any k fragments determine all of them, if they are correct.");
        int[] words = {0, 255, 1, 254, 128, 77};
        for (int k = 1; k <= 6; k++) {
            for (int index = 0; index < k; index++) {
                PeerStorage x = Scene.alike(10, 1);
                Scene.file(x, 0, 4, Arrays.copyOf(words, k));
                for (int set = 0; set < 1 << k + 4; set++) {
                    if (Integer.bitCount(set) == k) {
                        Due.is("word " + index + " of " + k + " from " + set, words[index], x.decode(0, set, index));
                    }
                }
            }
        }
        // All but k are lost, and a repair makes all of them anew.
        PeerStorage x = Scene.alike(10, 1);
        Scene.file(x, 9, 4, words);
        String before = Scene.seen(x).replaceAll(".* on ", "");
        for (int peer = 0; peer < 4; peer++) {
            x.crash(peer);
        }
        for (int peer = 0; peer < 4; peer++) {
            x.join(1);
        }
        Due.is("repair of four out of ten", 4, x.repair(0));
        Due.same("all fragments then", before, Scene.seen(x).replaceAll(".* on ", ""));
    }

    private static void fragmentPlaces() {
        Due.terms("A fragment is stored on at most one peer (or on none: it is lost), "
            + "and no peer stores two fragments of the same file.");
        for (int peers = 1; peers <= 12; peers++) {
            PeerStorage x = Scene.alike(peers, 40);
            Scene.file(x, 0, 4, 1, 2, 3, 4, 5, 6);
            Due.is("stored on " + peers, Math.min(peers, 10), x.fileInfo(0, 3));
            for (int i = 0; i < 10; i++) {
                Due.is("fragment " + i + " on " + peers, i < peers ? i : Due.MISSING, x.fragment(0, i, 0));
            }
            for (int peer = 0; peer < peers; peer++) {
                Due.is("free space of " + peer, peer < 10 ? 39 : 40, x.peerInfo(peer, 1));
            }
        }
    }

    private static void spoiledTo(int word, int amount, int value) {
        PeerStorage x = Scene.alike(1, 1);
        Scene.file(x, 0, 0, word);
        Due.is(word + " spoiled by " + amount, 1, x.spoil(0, 0, amount));
        Due.is(word + " spoiled by " + amount + ", its value", value, x.fragment(0, 0, 1));
        Due.is(word + " spoiled by " + amount + ", spoiled ones", 1, x.count(4));
    }

    private static void spoiledValues() {
        Due.terms("A stored fragment is correct or spoiled; a spoiled one has another value: "
            + "the correct one plus the amount by which it was spoiled (1 to 256), modulo 257.");
        spoiledTo(0, 1, 1);
        spoiledTo(0, 256, 256);
        spoiledTo(1, 255, 256);
        spoiledTo(1, 256, 0);
        spoiledTo(255, 1, 256);
        spoiledTo(255, 2, 0);
        spoiledTo(255, 3, 1);
        spoiledTo(255, 256, 254);
        PeerStorage x = Scene.alike(3, 1);
        Scene.file(x, 0, 1, 255, 1);
        x.spoil(0, 2, 1);
        Due.is("256 spoiled by 1", 0, x.fragment(0, 2, 1));
        x.undo();
        x.spoil(0, 2, 256);
        Due.is("256 spoiled by 256", 255, x.fragment(0, 2, 1));
    }

    private static PeerStorage oneWord() {
        PeerStorage x = Scene.alike(3, 2);
        Scene.file(x, 0, 1, 200);
        return x;
    }

    private static void spoiledBy(int spoiled, int... amounts) {
        PeerStorage x = oneWord();
        int sum = 0;
        for (int i = 0; i < amounts.length; i++) {
            sum += amounts[i];
            int due = i < amounts.length - 1 ? 1 : spoiled;
            Due.is("spoiled by " + sum + " in all", due, x.spoil(0, 0, amounts[i]));
            Due.is("spoiled by " + sum + " in all, value", (200 + sum) % 257, x.fragment(0, 0, 1));
            Due.is("spoiled by " + sum + " in all, spoiled ones", due, x.count(4));
            Due.is("spoiled by " + sum + " in all, good ones", 2 - due, x.fileInfo(0, 4));
        }
    }

    private static void spoiledAgain() {
        Due.terms("Spoiling it again adds the amounts; if they add up to a multiple of 257, it is correct again.");
        spoiledBy(0, 1, 256);
        spoiledBy(0, 256, 1);
        spoiledBy(0, 128, 129);
        spoiledBy(1, 128, 128);
        spoiledBy(1, 129, 129);
        spoiledBy(0, 100, 100, 57);
        spoiledBy(0, 256, 256, 2);
        spoiledBy(1, 256, 256, 1);
        spoiledBy(1, 256, 256, 3);
        spoiledBy(0, 256, 256, 256, 3);
        PeerStorage x = oneWord();
        x.spoil(0, 0, 100);
        x.spoil(0, 0, 157);
        Due.is("spoiled after it was correct again", 1, x.spoil(0, 0, 256));
        Due.is("the value then", 199, x.fragment(0, 0, 1));
        // The amount goes with the fragment, is forgotten by a repair, and comes back by undo.
        PeerStorage y = oneWord();
        Due.is("fragment 1", 1, y.fragment(0, 1, 0));
        y.spoil(0, 1, 100);
        y.leave(1);
        Due.is("fragment 1 then", 2, y.fragment(0, 1, 0));
        Due.is("its value", 43, y.fragment(0, 1, 1));
        Due.is("by 257 in all, on two peers", 0, y.spoil(0, 1, 157));
        y.undo();
        y.repair(0);
        Due.is("after a repair the amounts start anew", 1, y.spoil(0, 1, 157));
        y.undo();
        y.undo();
        Due.is("after undo they do not", 0, y.spoil(0, 1, 157));
    }

    /** A file of two words with parity on peers 0 to 3; the change makes one fragment after the other bad. */
    private static void becomesUnsafe(String what, Scene.Call... changes) {
        PeerStorage x = Scene.alike(5, 1);
        Scene.file(x, 4, 2, 7, 8);
        int good = 4;
        Due.is(what + ": at first", 1, x.fileInfo(0, 5));
        for (Scene.Call change : changes) {
            change.on(x);
            good--;
            Due.is(what + ": good ones", good, x.fileInfo(0, 4));
            Due.is(what + ": safe with " + good, good >= 2 ? 1 : 0, x.fileInfo(0, 5));
            Due.is(what + ": safe files with " + good, good >= 2 ? 1 : 0, x.count(2));
        }
    }

    private static void safeFiles() {
        Due.terms("A file is safe if at least k of its fragments are stored, correct and on peers that are online.");
        becomesUnsafe("lost", x -> x.crash(0), x -> x.crash(1), x -> x.crash(2), x -> x.crash(3));
        becomesUnsafe("lost by leaving", x -> leaveWithoutPlace(x, 3), x -> leaveWithoutPlace(x, 2),
            x -> leaveWithoutPlace(x, 1), x -> leaveWithoutPlace(x, 0));
        becomesUnsafe("spoiled", x -> x.spoil(0, 3, 1), x -> x.spoil(0, 2, 256), x -> x.spoil(0, 1, 7),
            x -> x.spoil(0, 0, 128));
        becomesUnsafe("offline", x -> x.setOnline(3, 0), x -> x.setOnline(0, 0), x -> x.setOnline(1, 0),
            x -> x.setOnline(2, 0));
        becomesUnsafe("each in its way", x -> x.crash(3), x -> x.spoil(0, 0, 1), x -> x.setOnline(1, 0));
        // What is bad in two ways counts once, and is good only when both are mended.
        PeerStorage x = Scene.alike(2, 1);
        Scene.file(x, 0, 1, 7);
        x.spoil(0, 1, 1);
        x.setOnline(1, 0);
        Due.is("spoiled and offline: safe by the other", 1, x.fileInfo(0, 5));
        x.setOnline(0, 0);
        Due.is("nothing good", 0, x.fileInfo(0, 5));
        x.spoil(0, 1, 256);
        Due.is("correct, but offline", 0, x.fileInfo(0, 5));
        x.setOnline(1, 1);
        Due.is("correct and online", 1, x.fileInfo(0, 5));
    }

    private static int leaveWithoutPlace(PeerStorage x, int peer) {
        // The owner has the only free unit.
        x.setOnline(4, 0);
        return x.leave(peer);
    }

    private static void reserves() {
        Due.terms("Its reserve is the number of such fragments minus k; it can be negative.");
        PeerStorage x = Scene.alike(10, 1);
        Scene.file(x, 0, 4, 1, 2, 3, 4, 5, 6);
        Due.is("greatest reserve", 4, x.fileInfo(0, 6));
        for (int peer = 0; peer < 10; peer++) {
            x.setOnline(peer, 0);
            Due.is("reserve without " + (peer + 1), 3 - peer, x.fileInfo(0, 6));
            Due.is("safe without " + (peer + 1), peer < 4 ? 1 : 0, x.fileInfo(0, 5));
        }
        PeerStorage y = Scene.alike(1, 1);
        Scene.file(y, 0, 0, 1);
        Due.is("reserve of one word", 0, y.fileInfo(0, 6));
        y.spoil(0, 0, 1);
        Due.is("reserve of one word, spoiled", -1, y.fileInfo(0, 6));
    }

    /** Peer 0 owns file 0, which is on peer 1 alone. */
    private static PeerStorage onPeerOne(int space) {
        PeerStorage x = Scene.peers(1, space);
        Scene.file(x, 0, 0, 5);
        return x;
    }

    private static int placeOfNext(PeerStorage x) {
        return x.fragment(Scene.file(x, 0, 0, 6), 0, 0);
    }

    private static void placeByTrust() {
        Due.terms("To place a fragment of a file means: of all peers that are online, have free space, "
            + "and store no fragment of this file, the one with the greatest trust is taken, "
            + "of several that with the greatest free space, of these that with the lowest number.");
        PeerStorage x = onPeerOne(3);
        x.audit(0, 1, 0);
        x.join(40);
        Due.is("trust 55 with two units before 50 with forty", 1, placeOfNext(x));
        Due.is("trust 55 with the last unit before 50 with forty", 1, placeOfNext(x));
        Due.is("trust 50 when 55 has no unit left", 2, placeOfNext(x));
        PeerStorage y = onPeerOne(9);
        y.spoil(0, 0, 1);
        y.audit(0, 1, 0);
        Due.is("trust 50 with one unit before 25 with eight", 0, placeOfNext(y));
        Due.is("trust 25 when it is the only one", 1, placeOfNext(y));
        for (int trust : new int[] {12, 6, 3, 1, 0}) {
            y.audit(0, 1, 0);
            Due.is("trust then", trust, y.peerInfo(1, 3));
        }
        Due.is("trust 0 when it is the only one", 1, placeOfNext(y));
        y.join(1);
        Due.is("trust 50 before 0", 2, placeOfNext(y));
        // Peers 1 and 2 with trust 100 and 95, then both with 100, one of them more often audited.
        PeerStorage z = Scene.peers(1, 5, 5);
        Scene.file(z, 0, 1, 7);
        for (int time = 0; time < 10; time++) {
            z.audit(0, 1, 0);
            z.audit(0, 2, 0);
        }
        z.undo();
        Due.is("trust 100 before 95", 1, placeOfNext(z));
        Due.is("trust 100 before 95 with more space", 1, placeOfNext(z));
        z.audit(0, 2, 0);
        z.audit(0, 1, 0);
        Due.is("both 100: by space", 2, placeOfNext(z));
    }

    private static void placeBySpaceThenNumber() {
        PeerStorage x = Scene.peers(4, 3);
        Due.is("four units before three", 0, placeOfNext(x));
        Due.is("three and three: the lower number", 0, placeOfNext(x));
        Due.is("three of three before two of four", 1, placeOfNext(x));
        Due.is("two and two: the lower number", 0, placeOfNext(x));
        Due.is("two before one", 1, placeOfNext(x));
        Due.is("one and one: the lower number", 0, placeOfNext(x));
        Due.is("the last unit", 1, placeOfNext(x));
        Due.is("none", Due.MISSING, placeOfNext(x));
        PeerStorage y = Scene.peers(39, 40);
        Due.is("forty units before thirty-nine", 1, placeOfNext(y));
        PeerStorage z = Scene.alike(12, 1);
        z.setOnline(0, 0);
        Scene.file(z, 11, 4, 1, 2, 3, 4, 5, 6);
        for (int i = 0; i < 10; i++) {
            Due.is("eleven alike, fragment " + i, i + 1, z.fragment(0, i, 0));
        }
    }

    private static void placeOnlyWhereItMay() {
        PeerStorage x = Scene.peers(1, 40, 2);
        x.setOnline(1, 0);
        Due.is("not on one offline", 2, placeOfNext(x));
        Due.is("one and one: the lower number", 0, placeOfNext(x));
        Due.is("not on one without a unit", 2, placeOfNext(x));
        Due.is("not on one offline, though the only one with space", Due.MISSING, placeOfNext(x));
        x.setOnline(1, 1);
        Due.is("online again", 1, placeOfNext(x));
        PeerStorage y = Scene.peers(40, 1);
        Scene.file(y, 0, 2, 1);
        Due.is("first the greater one", 0, y.fragment(0, 0, 0));
        Due.is("not on one with a fragment of this file", 1, y.fragment(0, 1, 0));
        Due.is("not on either of them", Due.MISSING, y.fragment(0, 2, 0));
    }

    private static void placeNowhere() {
        Due.terms("If there is none, the fragment cannot be placed.");
        PeerStorage full = onPeerOne(1);
        Due.is("fragment of file 0", 0, full.fragment(0, 0, 0));
        Due.is("the last unit", 1, placeOfNext(full));
        Due.is("by store, without a unit", Due.MISSING, placeOfNext(full));
        Due.is("a file without a stored fragment", 0, full.fileInfo(2, 3));
        PeerStorage alone = Scene.peers(2, 1);
        Scene.file(alone, 0, 1, 5);
        Due.is("by leave, as 0 has one of this file", 1, alone.leave(1));
        Due.is("lost by leave", Due.MISSING, alone.fragment(0, 1, 0));
        Due.is("by repair, as 0 has one of this file", 0, alone.repair(0));
        Due.is("lost after repair", Due.MISSING, alone.fragment(0, 1, 0));
    }

    private static void balances() {
        Due.terms("For each two different peers there is a balance, initially 0: how much the first one owes "
            + "to the second one (the balance of the second one with the first one is the negative of it).");
        PeerStorage x = Scene.alike(12, 1);
        for (int peer = 0; peer < 12; peer++) {
            for (int other = 0; other < 12; other++) {
                Due.is("balance at first", peer == other ? Due.INVALID : 0, x.balance(peer, other));
            }
        }
        Scene.file(x, 11, 4, 1, 2, 3, 4, 5, 6);
        for (int peer = 0; peer < 12; peer++) {
            for (int other = 0; other < 12; other++) {
                int owed = peer == 11 && other < 10 ? 1 : peer < 10 && other == 11 ? -1 : 0;
                Due.is("balance of " + peer + " with " + other, peer == other ? Due.INVALID : owed,
                    x.balance(peer, other));
            }
        }
        // Each owes to the other, and only the difference is left.
        PeerStorage y = Scene.alike(2, 9);
        Scene.file(y, 0, 1, 1);
        Scene.file(y, 1, 1, 1);
        Due.is("one against one", 0, y.balance(0, 1));
        Scene.file(y, 1, 1, 1);
        Due.is("one against two", -1, y.balance(0, 1));
        Due.is("two against one", 1, y.balance(1, 0));
    }

    private static void debtsForPlaces() {
        Due.terms("When a fragment of a file is placed on another peer than the owner "
            + "(by store, leave, or a repair), the owner owes 1 more to this peer.");
        PeerStorage x = Scene.peers(3, 2, 1);
        Scene.file(x, 0, 1, 5);
        Due.is("store: nothing for the owner's own", 1, x.count(8));
        Due.is("store: 1 for another", 1, x.balance(0, 1));
        x.leave(1);
        Due.is("leave: 1 for another", 1, x.balance(0, 2));
        x.spoil(0, 1, 1);
        x.repair(0);
        // Fragment 0 is read for it, on the owner, which is not paid.
        Due.is("repair: 1 for another", 2, x.balance(0, 2));
        x.spoil(0, 0, 1);
        x.repair(0);
        Due.is("repair on the owner: only fragment 1 that is read", 3, x.balance(0, 2));
        PeerStorage spoiled = Scene.peers(1, 3, 2);
        Scene.file(spoiled, 0, 0, 5);
        spoiled.spoil(0, 0, 1);
        spoiled.leave(1);
        Due.is("leave: 1 for another, though it is spoiled", 1, spoiled.balance(0, 2));
        PeerStorage y = Scene.peers(1, 2, 2);
        Scene.file(y, 0, 0, 5);
        y.setOnline(2, 0);
        Due.is("leave to the owner", 0, y.leave(1));
        Due.is("leave to the owner: its place", 0, y.fragment(0, 0, 0));
        Due.is("leave to the owner: no debts", 0, y.count(8));
        PeerStorage z = Scene.peers(1, 1);
        z.setOnline(1, 0);
        Scene.file(z, 0, 1, 5);
        Due.is("what is not placed costs nothing", 0, z.count(8));
    }

    private static void debtsForRepairs() {
        Due.terms("When a fragment is repaired, that is, placed anew, the owner owes in addition 1 to each peer "
            + "but itself from which a fragment is read for this.");
        // Fragments 0 to 9 on peers 0 to 9, of the owner 0: fragments 0 to 5 are read for 9.
        PeerStorage x = Scene.alike(10, 1);
        Scene.file(x, 0, 4, 1, 2, 3, 4, 5, 6);
        x.spoil(0, 9, 1);
        Due.is("repair", 1, x.repair(0));
        int[] due = {0, 2, 2, 2, 2, 2, 1, 1, 1, 2};
        for (int peer = 1; peer < 10; peer++) {
            Due.is("owed to " + peer, due[peer], x.balance(0, peer));
        }
        // The peer on which it is placed is not the one from which it is read.
        PeerStorage y = Scene.alike(4, 1);
        Scene.file(y, 3, 2, 5);
        y.spoil(0, 0, 1);
        y.repair(0);
        Due.is("owed to the peer with the new one", 2, y.balance(3, 0));
        Due.is("owed to the one that was read", 2, y.balance(3, 1));
        Due.is("owed to one that was not read", 1, y.balance(3, 2));
        // Not placed anew: not repaired.
        PeerStorage z = Scene.alike(3, 1);
        Scene.file(z, 2, 1, 5);
        Scene.file(z, 2, 0, 6);
        z.setOnline(0, 0);
        Due.is("repair without a place", 0, z.repair(0));
        Due.is("owed to the one that would be read", 1, z.balance(2, 1));
    }

    private static void debtsOfThoseGone() {
        Due.terms("When a peer does not exist any more, its balances are 0.");
        // Peer 2 owes to 0 and 1, and 0 owes to 1 and 2.
        for (boolean crash : new boolean[] {false, true}) {
            PeerStorage x = Scene.alike(3, 9);
            Scene.file(x, 2, 2, 5);
            Scene.file(x, 2, 2, 5);
            Scene.file(x, 0, 2, 5);
            Due.is("balances at first", 1 + 2 + 1, x.count(8));
            x.delete(0);
            x.delete(1);
            if (crash) {
                x.crash(2);
            } else {
                x.leave(2);
            }
            Due.is("no balance with a peer that is gone", Due.INVALID, x.balance(0, 2));
            Due.is("the others keep theirs", 1, x.balance(0, 1));
            Due.is("sum of peer 0", 1, x.peerInfo(0, 5));
            Due.is("sum of peer 1", -1, x.peerInfo(1, 5));
            Due.is("positive balances", 1, x.count(8));
            Due.is("another peer takes its number", 2, x.join(9));
            Due.is("and its own balances are 0", 0, x.peerInfo(2, 5));
            for (int other = 0; other < 2; other++) {
                Due.is("balance with " + other, 0, x.balance(2, other));
                Due.is("balance of " + other, 0, x.balance(other, 2));
            }
            x.undo();
            x.undo();
            Due.is("undo brings its balances back", -1, x.balance(0, 2));
        }
    }

    /** The peer owes to all others, for two files of ten fragments on twelve peers. */
    private static void makeDebts(PeerStorage x, int owner) {
        for (int time = 0; time < 2; time++) {
            Scene.file(x, owner, 4, 1, 2, 3, 4, 5, 6);
        }
    }

    private static void debtsOfEachNumber() {
        for (int peer = 0; peer < 12; peer++) {
            int owing = (peer + 5) % 12;
            PeerStorage x = Scene.alike(12, 9);
            makeDebts(x, peer);
            makeDebts(x, owing);
            int[] before = new int[12];
            for (int other = 0; other < 12; other++) {
                before[other] = x.balance(owing, other);
                if (other != peer && other != owing) {
                    Due.is("peer " + owing + " owes to " + other, 1, before[other] > 0 ? 1 : 0);
                    Due.is("peer " + peer + " owes to " + other, 1, x.balance(peer, other) > 0 ? 1 : 0);
                }
            }
            x.crash(peer);
            Due.is("join", peer, x.join(9));
            int sum = 0;
            for (int other = 0; other < 12; other++) {
                int none = other == peer ? Due.INVALID : 0;
                Due.is("balance of " + peer + " with " + other, none, x.balance(peer, other));
                Due.is("balance of " + other + " with " + peer, none, x.balance(other, peer));
                if (other != peer && other != owing) {
                    Due.is("balance of " + owing + " with " + other, before[other], x.balance(owing, other));
                    sum += before[other];
                }
            }
            Due.is("all balances without peer " + peer, sum, x.count(8));
        }
    }
}
