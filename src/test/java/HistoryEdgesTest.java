/** The boundary cases of the history: which calls are changes, what is recorded, and promise 21. */
public final class HistoryEdgesTest {
    public static void main(String[] args) {
        changes();
        noChanges();
        wordAndUndoAreNone();
        fiveStates();
        aroundTheEnd();
        undoIsNoChange();
        wordsInTheHistory();
        everythingInTheHistory();
        undoRestores();
        undoAnswers();
        Due.end();
    }

    private static PeerStorage owing() {
        PeerStorage x = Scene.peers(1, 9);
        Scene.file(x, 0, 0, 5);
        x.word(3);
        return x;
    }

    private static void changes() {
        Due.terms("The methods of the sections \"peers\", \"files\" and \"audits and repairs\" that return no error "
            + "are changes, except undo, word, and those that are said to change nothing.");
        Scene.changed("join", 2, HistoryEdgesTest::owing, x -> x.join(1));
        Scene.changed("leave", 0, HistoryEdgesTest::owing, x -> x.leave(1));
        Scene.changed("crash", 1, HistoryEdgesTest::owing, x -> x.crash(1));
        Scene.changed("setOnline", 1, HistoryEdgesTest::owing, x -> x.setOnline(1, 0));
        Scene.changed("pay", 0, HistoryEdgesTest::owing, x -> x.pay(0, 1, 1));
        Scene.changed("store", 1, HistoryEdgesTest::owing, x -> x.store(0, 1));
        Scene.changed("delete", 0, HistoryEdgesTest::owing, x -> x.delete(0));
        Scene.changed("spoil", 1, HistoryEdgesTest::owing, x -> x.spoil(0, 0, 1));
        Scene.changed("audit", 1, HistoryEdgesTest::owing, x -> x.audit(0, 1, 1));
        // They return no error, though they leave all as it is.
        Scene.changed("setOnline to what it is", 1, HistoryEdgesTest::owing, x -> x.setOnline(1, 1));
        Scene.changed("audit of nothing", 1, HistoryEdgesTest::owing, x -> x.audit(1, 0, 1));
        Scene.changed("repair of what is whole", 0, HistoryEdgesTest::owing, x -> x.repair(0));
        Scene.changed("repairAll of what is whole", 0, HistoryEdgesTest::owing, x -> x.repairAll(5));
        Scene.changed("repairAll of none", 0, HistoryEdgesTest::owing, x -> x.repairAll(0));
        Scene.changed("repairAll without files", 0, PeerStorage::new, x -> x.repairAll(5));
        Scene.changed("repair", 1, Scene::village, x -> x.repair(0));
        Scene.changed("repairAll", 1, Scene::village, x -> x.repairAll(5));
    }

    private static void noChanges() {
        Due.promise(7, "Describes a peer. (This changes nothing.)");
        Scene.asked("peerInfo", 25, Scene::lowTrust, x -> x.peerInfo(2, 3));
        Due.promise(8, "Returns a balance. (This changes nothing.)");
        Scene.asked("balance", 1, Scene::village, x -> x.balance(0, 4));
        Due.promise(12, "Describes a file. (This changes nothing.)");
        Scene.asked("fileInfo", 1, Scene::village, x -> x.fileInfo(0, 6));
        Due.promise(13, "Returns where a fragment is stored. (This changes nothing.)");
        Scene.asked("fragment", 31, Scene::village, x -> x.fragment(0, 1, 1));
        Due.promise(14, "(This changes nothing.)");
        Scene.asked("read", 22, Scene::village, x -> x.read(0, 1));
        Due.promise(15, "(This changes nothing.)");
        Scene.asked("decode", 22, Scene::village, x -> x.decode(0, 12, 1));
        Due.promise(18, "(This changes nothing.)");
        Scene.asked("passingSeeds", 0, Scene::village, x -> x.passingSeeds(0, 2));
        Due.terms("Ahead of the calls `tolerance`, `endangered`, `leavers`, `count` the interface says: "
            + "---- what would happen; nothing changes.");
        Scene.asked("tolerance", 1, Scene::village, PeerStorage::tolerance);
        Scene.asked("endangered", 0, Scene::village, x -> x.endangered(4));
        Scene.asked("leavers", 1, Scene::withRoom, PeerStorage::leavers);
        for (int what = 0; what <= 8; what++) {
            int w = what;
            int[] due = {5, 2, 2, 7, 1, 5, 1, 5, 6};
            Scene.asked("count(" + w + ")", due[w], Scene::village, x -> x.count(w));
        }
    }

    private static void wordAndUndoAreNone() {
        for (int changes = 0; changes <= 7; changes++) {
            PeerStorage x = Scene.alike(changes, 1);
            int states = Math.min(changes, 5);
            Due.is("states after " + changes + " changes", states, x.count(7));
            x.word(1);
            Due.is("states after a word", states, x.count(7));
            x.undo();
            Due.is("states after undo", Math.max(states - 1, 0), x.count(7));
        }
    }

    private static void fiveStates() {
        Due.terms("A history of at most 5 states is kept: each change records everything before it "
            + "(also the words that wait), and if there are 5 already, the oldest one is dropped; "
            + "undo takes the latest state from the history and restores it.");
        for (int changes = 0; changes <= 12; changes++) {
            PeerStorage x = new PeerStorage();
            for (int peer = 0; peer < changes; peer++) {
                x.join(peer + 1);
                Due.is("states after " + (peer + 1), Math.min(peer + 1, 5), x.count(7));
            }
            int kept = Math.min(changes, 5);
            for (int left = kept - 1; left >= 0; left--) {
                Due.is("undo after " + changes, left, x.undo());
                Due.is("states left after " + changes, left, x.count(7));
                Due.is("peers after " + changes, changes - kept + left, x.count(0));
            }
            Due.is("one undo more after " + changes, Due.IMPOSSIBLE, x.undo());
            Due.is("peers at the end after " + changes, changes - kept, x.count(0));
            for (int peer = 0; peer < changes - kept; peer++) {
                Due.is("peer " + peer + " at the end", peer + 1, x.peerInfo(peer, 0));
            }
        }
    }

    /** The history wraps around again and again, with calls between that are no changes. */
    private static void aroundTheEnd() {
        PeerStorage x = Scene.alike(1, 1);
        int[] online = new int[300];
        int at = 0;
        online[0] = 1;
        int states = 1;
        int calls = 1;
        for (int round = 1; calls < 440; round++) {
            for (int change = 0; change < round % 8; change++) {
                int to = (round + change) / 2 % 2;
                Due.is("setOnline", online[at], x.setOnline(0, to));
                at++;
                online[at] = to;
                states = Math.min(states + 1, 5);
                Due.is("a refused call between", Due.INVALID, x.setOnline(0, 2));
                calls += 2;
            }
            // The join itself is not taken back.
            for (int undo = 0; undo < round % 7 && states > 0 && at > 0; undo++) {
                states--;
                at--;
                Due.is("undo", states, x.undo());
                Due.is("online then", online[at], x.peerInfo(0, 2));
                calls += 2;
            }
            Due.is("states", states, x.count(7));
            calls++;
        }
    }

    private static void undoIsNoChange() {
        PeerStorage x = Scene.alike(3, 1);
        Due.is("undo", 2, x.undo());
        Due.is("undo again goes further back", 1, x.undo());
        Due.is("peers then", 1, x.count(0));
        Due.is("another change", 1, x.join(9));
        Due.is("states then", 2, x.count(7));
        Due.is("undo of it", 1, x.undo());
        Due.is("undo of the first", 0, x.undo());
        Due.is("nothing is left", Due.IMPOSSIBLE, x.undo());
        Due.is("what was undone is not in the history", 0, x.count(0));
    }

    private static void wordsInTheHistory() {
        // A word before each of seven changes.
        Scene.Call sevenWords = x -> {
            for (int i = 0; i < 7; i++) {
                x.word(10 + i);
                x.setOnline(0, i % 2);
            }
            return 0;
        };
        String[] due = {"10 11 12 13 14 15", "10 11 12 13 14 15", "10 11 12 13 14 15", "10 11 12 13 14",
            "10 11 12 13", "10 11 12"};
        for (int undone = 0; undone <= 5; undone++) {
            PeerStorage x = Scene.alike(1, 1);
            sevenWords.on(x);
            for (int time = 0; time < undone; time++) {
                Due.is("undo", 4 - time, x.undo());
            }
            Due.is("words that wait after " + undone, due[undone].split(" ").length, x.count(6));
            Due.same("words after " + undone, "waiting " + due[undone], Scene.waiting(x));
        }
        // Words that came after the last change go with it; those of a file come back.
        PeerStorage y = Scene.alike(1, 1);
        Scene.words(y, 1, 2, 3);
        y.store(0, 0);
        Scene.words(y, 7, 8, 9, 10);
        Due.is("undo of store", 1, y.undo());
        Due.is("words then", 3, y.count(6));
        Due.is("a word more", 4, y.word(4));
        Due.same("words then", "waiting 1 2 3 4", Scene.waiting(y));
        // A change without words that wait, then words, then undo: none wait.
        PeerStorage z = Scene.alike(1, 1);
        Scene.words(z, 1, 2, 3, 4, 5, 6);
        Due.is("undo of join", 0, z.undo());
        Due.is("no words wait", 0, z.count(6));
        Due.is("the first word again", 1, z.word(9));
    }

    private static void everythingInTheHistory() {
        // Each change alters something else; then all are taken back.
        PeerStorage x = Scene.village();
        x.audit(0, 2, 1);
        x.pay(0, 4, 1);
        x.crash(1);
        x.repair(0);
        x.spoil(0, 0, 100);
        String[] due = {"trust", "balances", "files", "places", "errors"};
        for (int left = 4; left >= 0; left--) {
            Due.is("undo of a change of " + due[left], left, x.undo());
        }
        Due.same("all as it was", Scene.seen(Scene.village()), Scene.seen(x));
        // The sixth change drops the oldest of them: the audit cannot be taken back.
        PeerStorage y = Scene.village();
        y.audit(0, 2, 1);
        for (int change = 0; change < 5; change++) {
            y.setOnline(0, change % 2);
        }
        for (int left = 4; left >= 0; left--) {
            Due.is("undo", left, y.undo());
        }
        Due.is("the trust after the audit", 25, y.peerInfo(2, 3));
        Due.is("no state is left", Due.IMPOSSIBLE, y.undo());
        Due.is("the trust stays", 25, y.peerInfo(2, 3));
    }

    private static void undoRestores() {
        Due.promise(21, "Takes the latest state from the history and restores it.");
        PeerStorage x = Scene.full();
        Due.is("crash of an owner", 6, x.crash(0));
        Due.is("undo", 4, x.undo());
        Due.same("its files and fragments are back", Scene.seen(Scene.full()), Scene.seen(x));
        PeerStorage y = Scene.full();
        y.delete(7);
        Due.is("another file with the number", 7, y.store(11, 0));
        y.undo();
        Due.is("six words wait again", Due.LIMIT, y.word(0));
        y.undo();
        Due.is("the owner of the first one", 7, y.fileInfo(7, 0));
        Due.is("its last fragment", 125, y.fragment(7, 9, 1));
        PeerStorage z = Scene.alike(1, 1);
        Due.is("undo of the first join", 0, z.undo());
        Due.is("no peer", Due.INVALID, z.peerInfo(0, 0));
        Due.is("its number is free", 0, z.join(2));
    }

    private static void undoAnswers() {
        Due.promise(21, "Returns the number of states that are left in the history; NOT_POSSIBLE if it is empty.");
        Scene.refused("undo of a new object", Due.IMPOSSIBLE, PeerStorage::new, PeerStorage::undo);
        Scene.refused("undo after words alone", Due.IMPOSSIBLE, HistoryEdgesTest::onlyWords, PeerStorage::undo);
        Scene.refused("undo after all was undone", Due.IMPOSSIBLE, HistoryEdgesTest::allUndone, PeerStorage::undo);
        for (int changes = 1; changes <= 12; changes++) {
            Due.is("undo after " + changes, Math.min(changes, 5) - 1, Scene.alike(changes, 1).undo());
        }
    }

    private static PeerStorage onlyWords() {
        PeerStorage x = new PeerStorage();
        Scene.words(x, 1, 2, 3, 4, 5, 6);
        return x;
    }

    private static PeerStorage allUndone() {
        PeerStorage x = Scene.full();
        for (int time = 0; time < 5; time++) {
            x.undo();
        }
        x.word(99);
        return x;
    }
}
