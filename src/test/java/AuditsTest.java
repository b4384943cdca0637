/** Promises 16 to 21: spoiling, audits, repairs and undo. */
public final class AuditsTest {
    public static void main(String[] args) {
        spoilAddsUp();
        spoilRefused();
        auditAnswers();
        auditOrder();
        auditTrust();
        auditRefused();
        passingSeedsAnswers();
        passingSeedsRefused();
        repairAnswers();
        repairTakesWhatIsOffline();
        repairRefused();
        repairAllByReserve();
        repairAllByNumber();
        undoAnswers();
        undoRestoresWords();
        undoRestoresAll();
        Due.end();
    }

    private static void spoilAddsUp() {
        PeerStorage x = Scene.village();
        Due.is("spoil(0, 0, 256)", 1, x.spoil(0, 0, 256));
        Due.is("its value", 10, x.fragment(0, 0, 1));
        Due.is("spoil(0, 0, 2)", 1, x.spoil(0, 0, 2));
        Due.is("its value then", 12, x.fragment(0, 0, 1));
        Due.is("two are spoiled", 2, x.count(4));
        Due.is("spoil(0, 0, 256) again", 0, x.spoil(0, 0, 256));
        Due.is("correct again", 11, x.fragment(0, 0, 1));
        Due.is("one is spoiled", 1, x.count(4));
        Due.is("spoil on a peer that is offline", 1, x.spoil(0, 2, 1));
        Scene.changed("spoil(0, 3, 1)", 1, Scene::village, y -> y.spoil(0, 3, 1));
        Scene.changed("spoil(0, 1, 248)", 0, Scene::village, y -> y.spoil(0, 1, 248));
    }

    private static PeerStorage withLost() {
        PeerStorage x = Scene.village();
        x.crash(4);
        return x;
    }

    private static void spoilRefused() {
        Scene.refused("spoil of a lost one", Due.IMPOSSIBLE, AuditsTest::withLost, x -> x.spoil(0, 0, 1));
        Scene.refused("spoil of a lost one by 0", Due.INVALID, AuditsTest::withLost, x -> x.spoil(0, 0, 0));
        Scene.refused("spoil(0, 0, 0)", Due.INVALID, Scene::village, x -> x.spoil(0, 0, 0));
        Scene.refused("spoil(0, 0, 257)", Due.INVALID, Scene::village, x -> x.spoil(0, 0, 257));
        Scene.refused("spoil(0, 5, 1)", Due.INVALID, Scene::village, x -> x.spoil(0, 5, 1));
        Scene.refused("spoil(2, 0, 1)", Due.INVALID, Scene::village, x -> x.spoil(2, 0, 1));
        Scene.refused("spoil(8, 0, 1)", Due.INVALID, Scene::village, x -> x.spoil(8, 0, 1));
        for (int wild : Due.WILD) {
            Scene.refused("spoil(wild, 0, 1)", Due.INVALID, Scene::village, x -> x.spoil(wild, 0, 1));
            Scene.refused("spoil(0, wild, 1)", Due.INVALID, Scene::village, x -> x.spoil(0, wild, 1));
            Scene.refused("spoil(0, 0, wild)", Due.INVALID, Scene::village, x -> x.spoil(0, 0, wild));
        }
    }

    private static void auditAnswers() {
        PeerStorage x = Scene.village();
        Due.is("audit of a spoiled one", 0, x.audit(0, 2, 0));
        Due.is("trust then", 25, x.peerInfo(2, 3));
        Due.is("audit by another owner", 1, x.audit(1, 2, 256));
        Due.is("trust then", 30, x.peerInfo(2, 3));
        Due.is("audit of nothing", 1, x.audit(4, 2, 7));
        Due.is("trust stays", 30, x.peerInfo(2, 3));
        Due.is("the auditor's trust stays", 50, x.peerInfo(0, 3));
        Scene.changed("audit that fails", 0, Scene::village, y -> y.audit(0, 2, 5));
        Scene.changed("audit that is passed", 1, Scene::village, y -> y.audit(0, 4, 5));
        Scene.changed("audit of nothing", 1, Scene::village, y -> y.audit(2, 4, 5));
    }

    /** Peer 1 holds the only fragments of files 0, 1 and 2, all of peer 0. */
    private static PeerStorage three() {
        PeerStorage x = Scene.peers(1, 9);
        for (int i = 0; i < 3; i++) {
            Scene.file(x, 0, 0, 100 + i);
        }
        return x;
    }

    private static PeerStorage spoiled(int first, int second, int third) {
        PeerStorage x = three();
        int[] amounts = {first, second, third};
        for (int i = 0; i < 3; i++) {
            if (amounts[i] != 0) {
                x.spoil(i, 0, amounts[i]);
            }
        }
        return x;
    }

    private static void auditOrder() {
        Due.is("seed 0 sees the first one", 0, spoiled(1, 0, 0).audit(0, 1, 0));
        Due.is("seed 0 sees no other", 1, spoiled(0, 1, 1).audit(0, 1, 0));
        Due.is("seed 1 sees the second one", 0, spoiled(0, 1, 0).audit(0, 1, 1));
        Due.is("seed 1: errors that cancel out", 1, spoiled(1, 256, 0).audit(0, 1, 1));
        Due.is("seed 2: errors that do not", 0, spoiled(1, 256, 0).audit(0, 1, 2));
        Due.is("seed 3: 248 + 0 * 3 + 1 * 9", 1, spoiled(248, 0, 1).audit(0, 1, 3));
        Due.is("seed 254, which is -3", 1, spoiled(248, 0, 1).audit(0, 1, 254));
        Due.is("seed 256, which is -1", 1, spoiled(1, 1, 0).audit(0, 1, 256));
        // By the numbers of the files, not by the time they were made.
        PeerStorage x = three();
        x.delete(0);
        Scene.file(x, 0, 0, 9);
        x.spoil(0, 0, 3);
        Due.is("the lowest number comes first", 0, x.audit(0, 1, 0));
        x.delete(0);
        x.spoil(1, 0, 3);
        Due.is("without it, the next one does", 0, x.audit(0, 1, 0));
        // Files of others are passed over and take no power of the seed.
        PeerStorage y = Scene.peers(1, 9);
        Scene.file(y, 1, 0, 1);
        Scene.file(y, 0, 0, 2);
        y.spoil(1, 0, 1);
        Due.is("a file of another owner is passed over", 0, y.audit(0, 1, 0));
        // What an earlier audit saw is forgotten.
        PeerStorage z = spoiled(1, 2, 3);
        Due.is("audit of three", 0, z.audit(0, 1, 4));
        z.delete(0);
        z.delete(1);
        z.spoil(2, 0, 254);
        Due.is("audit of the one that is left", 1, z.audit(0, 1, 4));
    }

    private static void auditTrust() {
        PeerStorage x = three();
        for (int trust = 55; trust <= 100; trust += 5) {
            Due.is("audit", 1, x.audit(0, 1, 9));
            Due.is("trust grows", trust, x.peerInfo(1, 3));
        }
        Due.is("audit at 100", 1, x.audit(0, 1, 9));
        Due.is("trust stays at 100", 100, x.peerInfo(1, 3));
        x.spoil(0, 0, 1);
        for (int trust = 50; trust > 0; trust /= 2) {
            Due.is("audit", 0, x.audit(0, 1, 0));
            Due.is("trust is halved", trust, x.peerInfo(1, 3));
        }
        x.audit(0, 1, 0);
        Due.is("trust stays at 0", 0, x.peerInfo(1, 3));
        x.audit(0, 1, 0);
        Due.is("trust stays at 0 then", 0, x.peerInfo(1, 3));
        PeerStorage y = spoiled(1, 0, 0);
        y.audit(0, 1, 0);
        y.audit(0, 1, 0);
        y.spoil(0, 0, 256);
        for (int i = 0; i < 17; i++) {
            y.audit(0, 1, 0);
        }
        Due.is("12 and 17 times 5", 97, y.peerInfo(1, 3));
        y.audit(0, 1, 0);
        Due.is("not above 100", 100, y.peerInfo(1, 3));
    }

    private static void auditRefused() {
        Scene.refused("audit of one offline", Due.IMPOSSIBLE, Scene::village, x -> x.audit(0, 3, 1));
        Scene.refused("audit by one offline", Due.IMPOSSIBLE, Scene::village, x -> x.audit(3, 0, 1));
        Scene.refused("audit of one offline, seed 257", Due.INVALID, Scene::village, x -> x.audit(0, 3, 257));
        Scene.refused("audit(0, 1, 257)", Due.INVALID, Scene::village, x -> x.audit(0, 1, 257));
        Scene.refused("audit(0, 1, -1)", Due.INVALID, Scene::village, x -> x.audit(0, 1, -1));
        Scene.refused("audit(0, 0, 1)", Due.INVALID, Scene::village, x -> x.audit(0, 0, 1));
        Scene.refused("audit(0, 5, 1)", Due.INVALID, Scene::village, x -> x.audit(0, 5, 1));
        Scene.refused("audit(5, 0, 1)", Due.INVALID, Scene::village, x -> x.audit(5, 0, 1));
        for (int wild : Due.WILD) {
            Scene.refused("audit(wild, 1, 1)", Due.INVALID, Scene::village, x -> x.audit(wild, 1, 1));
            Scene.refused("audit(1, wild, 1)", Due.INVALID, Scene::village, x -> x.audit(1, wild, 1));
            Scene.refused("audit(0, 1, wild)", Due.INVALID, Scene::village, x -> x.audit(0, 1, wild));
        }
    }

    private static void passingSeedsAnswers() {
        Scene.asked("passingSeeds, all correct", 257, Scene::village, x -> x.passingSeeds(0, 4));
        Scene.asked("passingSeeds, nothing there", 257, Scene::village, x -> x.passingSeeds(2, 4));
        Scene.asked("passingSeeds, one spoiled", 0, Scene::village, x -> x.passingSeeds(0, 2));
        Scene.asked("passingSeeds, one offline", 257, Scene::village, x -> x.passingSeeds(0, 3));
        Scene.asked("passingSeeds by one offline", 257, Scene::village, x -> x.passingSeeds(3, 0));
        Due.is("errors 0 5: seed 0", 1, spoiled(0, 5, 0).passingSeeds(0, 1));
        Due.is("errors 7 5: one seed", 1, spoiled(7, 5, 0).passingSeeds(0, 1));
        Due.is("errors -1 0 1: seeds 1 and 256", 2, spoiled(256, 0, 1).passingSeeds(0, 1));
        Due.is("errors -3 0 1: 3 is no square", 0, spoiled(254, 0, 1).passingSeeds(0, 1));
        Due.is("errors 1 -2 1: seed 1 alone", 1, spoiled(1, 255, 1).passingSeeds(0, 1));
        Due.is("errors 0 0 1: seed 0 alone", 1, spoiled(0, 0, 1).passingSeeds(0, 1));
    }

    private static void passingSeedsRefused() {
        PeerStorage x = Scene.village();
        Due.is("passingSeeds(0, 0)", Due.INVALID, x.passingSeeds(0, 0));
        Due.is("passingSeeds(0, 5)", Due.INVALID, x.passingSeeds(0, 5));
        Due.is("passingSeeds(5, 0)", Due.INVALID, x.passingSeeds(5, 0));
        for (int wild : Due.WILD) {
            Due.is("passingSeeds(wild, 0)", Due.INVALID, x.passingSeeds(wild, 0));
            Due.is("passingSeeds(0, wild)", Due.INVALID, x.passingSeeds(0, wild));
        }
    }

    private static void repairAnswers() {
        PeerStorage x = Scene.village();
        // Fragment 1 is spoiled, fragment 2 is on peer 3, which is offline; no peer is left for it.
        Due.is("repair(0)", 1, x.repair(0));
        Due.is("the spoiled one is placed on its peer again", 2, x.fragment(0, 1, 0));
        Due.is("it is correct", 22, x.fragment(0, 1, 1));
        Due.is("the other one is lost", Due.MISSING, x.fragment(0, 2, 0));
        Due.is("it is off its peer", 3, x.peerInfo(3, 1));
        Due.is("owed for placing", 2, x.balance(0, 2));
        Due.is("owed for reading fragment 0", 2, x.balance(0, 4));
        Due.is("nothing more to another", 1, x.balance(0, 1));
        Due.is("nothing for what is lost", 1, x.balance(0, 3));
        Due.is("all debts", 8, x.count(8));
        Due.is("reserve then", 2, x.fileInfo(0, 6));
        x.join(1);
        Due.is("repair with room", 1, x.repair(0));
        Due.is("placed on the new peer", 5, x.fragment(0, 2, 0));
        Due.is("with its value", 33, x.fragment(0, 2, 1));
        Due.is("owed to the new peer", 1, x.balance(0, 5));
        Due.is("owed for reading fragments 0 and 1", 3 + 3, x.balance(0, 4) + x.balance(0, 2));
        Due.is("repair of what is whole", 0, x.repair(0));
        Scene.changed("repair(0)", 1, Scene::village, y -> y.repair(0));
        Scene.changed("repair with nothing to do", 0, Scene::village, y -> y.repair(1));
    }

    private static void repairTakesWhatIsOffline() {
        // Fragment 0 on peer 2 and then the others; peers 3 and 4 join while 2 is offline.
        PeerStorage x = Scene.peers(1, 1, 2);
        Scene.file(x, 0, 2, 50);
        x.setOnline(2, 0);
        x.join(5);
        x.spoil(0, 1, 1);
        Due.is("repair of two", 2, x.repair(0));
        Due.is("one from offline goes to the new peer", 3, x.fragment(0, 0, 0));
        Due.is("the spoiled one goes to its own place", 0, x.fragment(0, 1, 0));
        Due.is("its place is free", 2, x.peerInfo(2, 1));
        // For fragment 0 fragment 2 is read (peer 1), for fragment 1 fragment 0 (peer 3).
        Due.is("owed to peer 1", 2, x.balance(0, 1));
        Due.is("owed to peer 3", 2, x.balance(0, 3));
        Due.is("owed to peer 2 as before", 1, x.balance(0, 2));
        Due.is("the owner may be offline", 1, x.setOnline(0, 0));
        Due.is("repair then", 0, x.repair(0));
        Due.is("what was on the owner is lost", Due.MISSING, x.fragment(0, 1, 0));
        x.setOnline(2, 1);
        Due.is("repair then, on another", 1, x.repair(0));
        Due.is("owed by the owner that is offline", 2, x.balance(0, 2));
        Due.is("and for reading", 3, x.balance(0, 3));
    }

    private static PeerStorage unsafe() {
        PeerStorage x = Scene.village();
        x.setOnline(4, 0);
        x.setOnline(0, 0);
        return x;
    }

    private static void repairRefused() {
        Scene.refused("repair when not safe", Due.IMPOSSIBLE, AuditsTest::unsafe, x -> x.repair(0));
        Scene.refused("repair(2)", Due.INVALID, Scene::village, x -> x.repair(2));
        Scene.refused("repair(8)", Due.INVALID, Scene::village, x -> x.repair(8));
        for (int wild : Due.WILD) {
            Scene.refused("repair(" + wild + ")", Due.INVALID, Scene::village, x -> x.repair(wild));
        }
    }

    private static void repairAllByReserve() {
        Scene.changed("repairAll(0)", 0, Scene::village, x -> x.repairAll(0));
        Scene.changed("repairAll(1)", 0, Scene::village, x -> x.repairAll(1));
        Scene.changed("repairAll(2)", 1, Scene::village, x -> x.repairAll(2));
        Scene.changed("repairAll(5)", 1, Scene::village, x -> x.repairAll(5));
        Scene.changed("repairAll without files", 0, PeerStorage::new, x -> x.repairAll(5));
        // File 0 is not safe here; file 1 has lost the fragment on peer 4, which is offline.
        PeerStorage x = unsafe();
        Due.is("repairAll(5) of the safe one", 1, x.repairAll(5));
        Due.is("the other one is as it was", 31, x.fragment(0, 1, 1));
        Due.is("the safe one is whole", 1, x.fileInfo(1, 6));
        Scene.refused("repairAll(6)", Due.INVALID, Scene::village, y -> y.repairAll(6));
        Scene.refused("repairAll(-1)", Due.INVALID, Scene::village, y -> y.repairAll(-1));
        for (int wild : Due.WILD) {
            Scene.refused("repairAll(" + wild + ")", Due.INVALID, Scene::village, y -> y.repairAll(wild));
        }
    }

    private static void repairAllByNumber() {
        PeerStorage x = Scene.peers(1, 2, 2);
        Scene.file(x, 0, 1, 1);
        Scene.file(x, 0, 1, 2);
        Due.is("file 0 on peers 1 and 2", 12, 10 * x.fragment(0, 0, 0) + x.fragment(0, 1, 0));
        Due.is("file 1 on peers 0 and 1", 1, 10 * x.fragment(1, 0, 0) + x.fragment(1, 1, 0));
        x.crash(1);
        Due.is("both have lost one", 2, x.count(3));
        Due.is("repairAll(1) with room for one", 1, x.repairAll(1));
        Due.is("file 0 finds none on peer 0", Due.MISSING, x.fragment(0, 0, 0));
        Due.is("file 1 is on peer 2", 2, x.fragment(1, 1, 0));
        PeerStorage y = Scene.peers(2, 2);
        Scene.file(y, 0, 1, 1);
        Scene.file(y, 0, 1, 2);
        y.crash(1);
        y.join(1);
        Due.is("repairAll(1) with room for one of two", 1, y.repairAll(1));
        Due.is("the lower number takes it", 2, y.fileInfo(0, 3));
        Due.is("the higher one does not", 1, y.fileInfo(1, 3));
    }

    private static void undoAnswers() {
        PeerStorage x = new PeerStorage();
        Due.is("undo of nothing", Due.IMPOSSIBLE, x.undo());
        for (int i = 0; i < 7; i++) {
            x.join(i + 1);
            Due.is("states in the history", Math.min(i + 1, 5), x.count(7));
        }
        for (int left = 4; left >= 0; left--) {
            Due.is("undo", left, x.undo());
            Due.is("peers then", 2 + left, x.count(0));
            Due.is("states then", left, x.count(7));
        }
        Due.is("undo beyond the history", Due.IMPOSSIBLE, x.undo());
        Due.is("the oldest states are gone", 2, x.count(0));
        Due.is("join after undo", 2, x.join(9));
        Due.is("undo of it", 0, x.undo());
        Due.is("peer 1 is as it was", 2, x.peerInfo(1, 0));
        Scene.refused("undo of nothing", Due.IMPOSSIBLE, PeerStorage::new, PeerStorage::undo);
    }

    private static void undoRestoresWords() {
        PeerStorage x = Scene.peers(9, 9, 9);
        x.word(1);
        x.word(2);
        x.store(0, 0);
        x.word(3);
        Due.is("undo of store", 3, x.undo());
        Due.is("the words wait again", 2, x.count(6));
        x.word(4);
        Due.is("store of three", 0, x.store(0, 0));
        // The word that came after the change is forgotten.
        int[] due = {1, 2, 4};
        for (int i = 0; i < 3; i++) {
            Due.is("word " + i, due[i], x.read(0, i));
        }
        x.word(5);
        x.setOnline(1, 0);
        x.word(6);
        x.undo();
        Due.is("words at the time of the change", 1, x.count(6));
    }

    private static void undoRestoresAll() {
        PeerStorage x = Scene.village();
        String before = Scene.seen(x);
        x.audit(0, 2, 1);
        x.pay(0, 4, 1);
        x.crash(1);
        x.repair(0);
        x.delete(0);
        for (int left = 4; left >= 0; left--) {
            Due.is("undo", left, x.undo());
        }
        Due.same("five times undo", before, Scene.seen(x));
        // Another file with the same number is made before the first one comes back.
        PeerStorage y = Scene.village();
        y.delete(0);
        Scene.file(y, 2, 4, 200, 201);
        y.undo();
        y.undo();
        Due.same("a file that comes back", before, Scene.seen(y));
    }
}
