/** The boundary cases of promises 1 to 8: a new object, and the calls on peers. */
public final class PeersEdgesTest {
    public static void main(String[] args) {
        newObject();
        joinSpace();
        joinTwelve();
        leavePlaces();
        leaveGone();
        leaveAnswers();
        crashLoses();
        crashAnswers();
        setOnlineRange();
        payRange();
        payAnswers();
        peerInfoRange();
        peerInfoAnswers();
        balanceAnswers();
        Due.end();
    }

    private static void newObject() {
        Due.promise(1, "Creates a storage without peers and files.");
        PeerStorage x = new PeerStorage();
        for (int what = 0; what <= 8; what++) {
            Due.is("count(" + what + ")", 0, x.count(what));
        }
        for (int peer = -1; peer <= 12; peer++) {
            Due.is("peerInfo(" + peer + ", 0)", Due.INVALID, x.peerInfo(peer, 0));
        }
        for (int file = -1; file <= 8; file++) {
            Due.is("fileInfo(" + file + ", 0)", Due.INVALID, x.fileInfo(file, 0));
        }
        for (int peer : new int[] {0, 11}) {
            int p = peer;
            int other = 11 - peer;
            Scene.refused("leave", Due.INVALID, PeerStorage::new, y -> y.leave(p));
            Scene.refused("crash", Due.INVALID, PeerStorage::new, y -> y.crash(p));
            Scene.refused("setOnline", Due.INVALID, PeerStorage::new, y -> y.setOnline(p, 1));
            Scene.refused("pay", Due.INVALID, PeerStorage::new, y -> y.pay(p, other, 1));
            Scene.refused("balance", Due.INVALID, PeerStorage::new, y -> y.balance(p, other));
            Scene.refused("store", Due.INVALID, PeerStorage::new, y -> y.store(p, 0));
            Scene.refused("audit", Due.INVALID, PeerStorage::new, y -> y.audit(p, other, 0));
            Scene.refused("passingSeeds", Due.INVALID, PeerStorage::new, y -> y.passingSeeds(p, other));
            Scene.refused("endangered", Due.INVALID, PeerStorage::new, y -> y.endangered(p));
        }
        for (int file : new int[] {0, 7}) {
            int f = file;
            Scene.refused("delete", Due.INVALID, PeerStorage::new, y -> y.delete(f));
            Scene.refused("fragment", Due.INVALID, PeerStorage::new, y -> y.fragment(f, 0, 0));
            Scene.refused("read", Due.INVALID, PeerStorage::new, y -> y.read(f, 0));
            Scene.refused("decode", Due.INVALID, PeerStorage::new, y -> y.decode(f, 1, 0));
            Scene.refused("decode of nothing", Due.INVALID, PeerStorage::new, y -> y.decode(f, 0, 0));
            Scene.refused("spoil", Due.INVALID, PeerStorage::new, y -> y.spoil(f, 0, 1));
            Scene.refused("repair", Due.INVALID, PeerStorage::new, y -> y.repair(f));
        }
    }

    private static void joinSpace() {
        Due.promise(2, "`space`: 1 to 40");
        Scene.changed("join(1)", 5, Scene::village, x -> x.join(1));
        Scene.changed("join(40)", 5, Scene::village, x -> x.join(40));
        Due.promise(2, "INVALID_ARGUMENT if space is out of range;");
        Scene.outside("join", 1, 40, Scene::village, PeerStorage::join);
        Scene.outside("join as the first", 1, 40, PeerStorage::new, PeerStorage::join);
    }

    private static void joinTwelve() {
        Due.promise(2, "Returns the number of the peer;");
        Scene.changed("join as the first", 0, PeerStorage::new, x -> x.join(7));
        Scene.changed("join as the twelfth", 11, () -> Scene.alike(11, 3), x -> x.join(7));
        Scene.changed("join with a gap", 1, Scene::gaps, x -> x.join(7));
        Due.promise(2, "LIMIT_REACHED if there are 12 peers.");
        Scene.refused("join as the thirteenth", Due.LIMIT, () -> Scene.alike(12, 3), x -> x.join(1));
        Scene.refused("join as the thirteenth, all full", Due.LIMIT, Scene::full, x -> x.join(40));
        // Those that are offline count too.
        PeerStorage x = Scene.alike(12, 1);
        for (int peer = 0; peer < 12; peer++) {
            x.setOnline(peer, 0);
        }
        Due.is("join beside twelve offline", Due.LIMIT, x.join(1));
        x.crash(4);
        Due.is("join beside eleven offline", 4, x.join(1));
    }

    /** Peer 1 has the greatest trust and space, and a fragment of each of eight files of peer 0. */
    private static PeerStorage loaded(int... spaces) {
        PeerStorage x = Scene.peers(8, 40);
        for (int file = 0; file < 8; file++) {
            Scene.file(x, 0, 0, 10 * file);
        }
        x.audit(0, 1, 0);
        for (int space : spaces) {
            x.join(space);
        }
        return x;
    }

    private static void leavePlaces() {
        Due.promise(3, "Lets a peer leave in good order: its fragments are placed on other peers (as they are, "
            + "also if they are spoiled), by files, then by fragments, the peer itself not being taken; "
            + "what cannot be placed is lost.");
        PeerStorage x = loaded();
        Due.is("leave, with as much space as is needed", 0, x.leave(1));
        for (int file = 0; file < 8; file++) {
            Due.is("file " + file + " then", 0, x.fragment(file, 0, 0));
        }
        Due.is("free space then", 0, x.peerInfo(0, 1));
        // The spaces of 3, 3 and 2 on peers 2, 3 and 4 with the 8 on peer 0, by the greatest free space.
        PeerStorage y = loaded(3, 3, 2);
        y.spoil(0, 0, 256);
        y.spoil(7, 0, 200);
        Due.is("leave", 0, y.leave(1));
        int[] due = {0, 0, 0, 0, 0, 0, 2, 3};
        for (int file = 0; file < 8; file++) {
            Due.is("file " + file + " on four", due[file], y.fragment(file, 0, 0));
        }
        Due.is("spoiled ones stay so", 2, y.count(4));
        Due.is("file 0 as it was", 256, y.fragment(0, 0, 1));
        Due.is("file 7 as it was", 13, y.fragment(7, 0, 1));
        // The lower number of a file comes first, also if it was made later.
        PeerStorage z = Scene.peers(1, 3);
        Scene.file(z, 0, 0, 1);
        Scene.file(z, 0, 0, 2);
        z.delete(0);
        Scene.file(z, 0, 0, 3);
        Due.is("both files on peer 1", 11, 10 * z.fragment(0, 0, 0) + z.fragment(1, 0, 0));
        z.spoil(1, 0, 5);
        Due.is("leave with room for one", 1, z.leave(1));
        Due.is("the lower number is placed", 0, z.fragment(0, 0, 0));
        Due.is("the other one is lost", Due.MISSING, z.fragment(1, 0, 0));
        Due.is("what is lost is not spoiled", 0, z.count(4));
    }

    private static void leaveGone() {
        Due.promise(3, "Then the peer does not exist any more.");
        PeerStorage x = loaded(1);
        x.leave(1);
        Due.is("peers then", 2, x.count(0));
        Due.is("peerInfo", Due.INVALID, x.peerInfo(1, 0));
        Due.is("leave again", Due.INVALID, x.leave(1));
        Due.is("crash", Due.INVALID, x.crash(1));
        Due.is("setOnline", Due.INVALID, x.setOnline(1, 1));
        Due.is("balance", Due.INVALID, x.balance(0, 1));
        Due.is("store", Due.INVALID, Scene.file(x, 1, 0, 1));
        Due.is("audit", Due.INVALID, x.audit(0, 1, 0));
        Due.is("endangered", Due.INVALID, x.endangered(1));
        PeerStorage y = Scene.alike(1, 1);
        Due.is("leave of the last one", 0, y.leave(0));
        Due.is("peers then", 0, y.count(0));
    }

    private static void leaveAnswers() {
        Due.promise(3, "Returns the number of fragments that are lost by this; INVALID_ARGUMENT; "
            + "NOT_POSSIBLE if it owns a file, or is offline.");
        Scene.changed("leave without a fragment", 0, PeersEdgesTest::oneOfTwo, x -> x.leave(2));
        Scene.changed("leave as the only peer", 0, () -> Scene.alike(1, 40), x -> x.leave(0));
        Scene.changed("leave as the twelfth", 0, () -> Scene.alike(12, 1), x -> x.leave(11));
        Scene.changed("leave of eight fragments", 0, () -> loaded(), x -> x.leave(1));
        Scene.changed("leave, the only space being offline", 8, PeersEdgesTest::withoutPlace, x -> x.leave(1));
        Scene.refused("leave of an owner", Due.IMPOSSIBLE, Scene::full, x -> x.leave(0));
        Scene.refused("leave of an owner of one", Due.IMPOSSIBLE, PeersEdgesTest::oneOfTwo, x -> x.leave(1));
        Scene.refused("leave when offline", Due.IMPOSSIBLE, Scene::village, x -> x.leave(3));
        Scene.refused("leave of an owner, offline", Due.IMPOSSIBLE, PeersEdgesTest::withoutPlace, x -> x.leave(0));
        PeerStorage nothing = Scene.alike(1, 1);
        Scene.file(nothing, 0, 0, 7);
        nothing.spoil(0, 0, 1);
        Due.is("leave of an owner of a file that is not safe", Due.IMPOSSIBLE, nothing.leave(0));
        Scene.file(nothing, 0, 0, 8);
        nothing.delete(0);
        Due.is("leave of an owner of a file without a fragment", Due.IMPOSSIBLE, nothing.leave(0));
        PeerStorage x = oneOfTwo();
        x.delete(1);
        Due.is("leave after its last file is deleted", 0, x.leave(1));
        PeerStorage y = Scene.village();
        y.setOnline(3, 1);
        Due.is("leave when online again, all others having one", 1, y.leave(3));
        Due.promise(3, "`peer`: number of the peer");
        Scene.noSuchPeer("leave", PeerStorage::leave);
    }

    /** Peers 0 and 1 own a file each; peer 2 has nothing. */
    private static PeerStorage oneOfTwo() {
        PeerStorage x = Scene.alike(2, 2);
        Scene.file(x, 0, 1, 7);
        Scene.file(x, 1, 1, 8);
        x.join(1);
        return x;
    }

    private static PeerStorage withoutPlace() {
        PeerStorage x = loaded();
        x.setOnline(0, 0);
        return x;
    }

    private static void crashLoses() {
        Due.promise(4, "Removes a peer: all fragments on it are lost, all files that it owns are deleted.");
        PeerStorage x = loaded(1);
        Due.is("crash of a peer with eight", 8, x.crash(1));
        Due.is("all files stay", 8, x.count(1));
        Due.is("no fragment does", 0, x.count(3));
        Due.is("nor on the space of others", 8, x.peerInfo(0, 1));
        Due.is("peer 1 is gone", Due.INVALID, x.peerInfo(1, 0));
        PeerStorage y = loaded(1);
        Due.is("crash of the owner of eight", 0, y.crash(0));
        Due.is("no file stays", 0, y.count(1));
        Due.is("nor a fragment", 0, y.count(3));
        Due.is("all space is free", 40, y.peerInfo(1, 1));
        Due.is("no debts", 0, y.count(8));
        PeerStorage offline = withoutPlace();
        Due.is("crash of the owner of eight, offline", 0, offline.crash(0));
        Due.is("no file stays then", 0, offline.count(1));
        Due.is("nor a fragment then", 0, offline.count(3));
        PeerStorage z = Scene.full();
        Due.is("crash of peer 11, which owns none", 6, z.crash(11));
        Due.is("stored then", 74, z.count(3));
        PeerStorage v = Scene.full();
        // Seven fragments on it, one of them of its own file, whose nine others go too.
        Due.is("crash of peer 0, which owns file 0", 6, v.crash(0));
        Due.is("stored then", 64, v.count(3));
        Due.is("the file is gone", Due.INVALID, v.fileInfo(0, 0));
        PeerStorage w = Scene.alike(1, 1);
        Scene.file(w, 0, 0, 1);
        Due.is("crash of the last one, with its file", 0, w.crash(0));
        Due.is("peers then", 0, w.count(0));
        Due.is("files then", 0, w.count(1));
    }

    private static void crashAnswers() {
        Due.promise(4, "Returns the number of fragments that are lost by this "
            + "(those of the deleted files, wherever they are stored, not included); INVALID_ARGUMENT.");
        Scene.changed("crash without a fragment", 0, PeersEdgesTest::oneOfTwo, x -> x.crash(2));
        Scene.changed("crash with one of another and one of its own", 1, PeersEdgesTest::oneOfTwo, x -> x.crash(0));
        Scene.changed("crash with eight", 8, () -> loaded(), x -> x.crash(1));
        Scene.changed("crash of an owner", 0, () -> loaded(), x -> x.crash(0));
        Scene.changed("crash when offline", 1, Scene::village, x -> x.crash(3));
        Scene.changed("crash of an owner, offline", 0, PeersEdgesTest::withoutPlace, x -> x.crash(0));
        Scene.changed("crash as the twelfth", 6, Scene::full, x -> x.crash(11));
        Scene.changed("crash of the only peer", 0, () -> Scene.alike(1, 1), x -> x.crash(0));
        Due.promise(4, "`peer`: number of the peer");
        Scene.noSuchPeer("crash", PeerStorage::crash);
    }

    private static void setOnlineRange() {
        Due.promise(5, "`online`: 1 or 0");
        Scene.outside("setOnline", 0, 1, Scene::full, (x, online) -> x.setOnline(0, online));
        Scene.outside("setOnline of one offline", 0, 1, Scene::village, (x, online) -> x.setOnline(3, online));
        Due.promise(5, "Returns the previous value; INVALID_ARGUMENT.");
        Scene.changed("from 1 to 0", 1, Scene::full, x -> x.setOnline(0, 0));
        Scene.changed("from 1 to 1", 1, Scene::full, x -> x.setOnline(11, 1));
        Scene.changed("from 0 to 1", 0, Scene::village, x -> x.setOnline(3, 1));
        Scene.changed("from 0 to 0", 0, Scene::village, x -> x.setOnline(3, 0));
        Due.promise(5, "`peer`: number of the peer");
        Scene.noSuchPeer("setOnline 1", (x, peer) -> x.setOnline(peer, 1));
        Scene.noSuchPeer("setOnline 0", (x, peer) -> x.setOnline(peer, 0));
    }

    /**
     * Peer 0 owes 8 + 32 times as many as are asked for to peer 1, which is read for all repairs:
     * each time four fragments of eight files go from peers 2 to 5 to peers 6 to 9, or back.
     */
    private static PeerStorage deepInDebt(int repairs) {
        PeerStorage x = Scene.peers(1, 40, 20, 20, 20, 20, 9, 9, 9, 9);
        for (int file = 0; file < 8; file++) {
            Scene.file(x, 0, 4, 77);
        }
        for (int time = 0; time < repairs; time++) {
            for (int peer = 2; peer < 6; peer++) {
                x.setOnline(peer, time % 2);
                if (time > 0) {
                    x.setOnline(peer + 4, 1 - time % 2);
                }
            }
            Due.is("fragments of a repair", 32, x.repairAll(1));
        }
        return x;
    }

    private static PeerStorage owingFive() {
        PeerStorage x = Scene.peers(1, 9);
        for (int file = 0; file < 5; file++) {
            Scene.file(x, 0, 0, file);
        }
        return x;
    }

    private static void payRange() {
        Due.promise(6, "`amount`: 1 to 1000");
        Scene.changed("pay 1", 4, PeersEdgesTest::owingFive, x -> x.pay(0, 1, 1));
        PeerStorage x = deepInDebt(31);
        Due.is("owed", 1000, x.balance(0, 1));
        Due.is("pay 1001, owing 1000", Due.INVALID, x.pay(0, 1, 1001));
        Due.is("still owed", 1000, x.balance(0, 1));
        Due.is("pay 1000, owing 1000", 0, x.pay(0, 1, 1000));
        x.undo();
        x.pay(0, 1, 1);
        Due.is("pay 1000, owing 999", Due.IMPOSSIBLE, x.pay(0, 1, 1000));
        Due.is("pay 999, owing 999", 0, x.pay(0, 1, 999));
        PeerStorage y = deepInDebt(32);
        Due.is("pay 1001, owing 1032", Due.INVALID, y.pay(0, 1, 1001));
        Due.is("pay 1000, owing 1032", 32, y.pay(0, 1, 1000));
        Scene.outside("pay", 1, 1000, PeersEdgesTest::owingFive, (z, amount) -> z.pay(0, 1, amount));
        Due.promise(6, "INVALID_ARGUMENT if an argument is out of range or both peers are the same;");
        Scene.refused("pay(0, 0, 1)", Due.INVALID, PeersEdgesTest::owingFive, z -> z.pay(0, 0, 1));
        Scene.refused("pay(1, 1, 1)", Due.INVALID, PeersEdgesTest::owingFive, z -> z.pay(1, 1, 1));
        Scene.refused("pay(11, 11, 1000)", Due.INVALID, Scene::full, z -> z.pay(11, 11, 1000));
        Due.promise(6, "`peer`: number of the peer");
        Scene.noSuchPeer("pay by", (z, peer) -> z.pay(peer, 0, 1));
        Due.promise(6, "`other`: number of another peer");
        Scene.noSuchPeer("pay to", (z, peer) -> z.pay(0, peer, 1));
    }

    private static void payAnswers() {
        Due.promise(6, "Returns the balance of the peer with the other one then;");
        Scene.changed("pay 4 of 5", 1, PeersEdgesTest::owingFive, x -> x.pay(0, 1, 4));
        Scene.changed("pay all", 0, PeersEdgesTest::owingFive, x -> x.pay(0, 1, 5));
        Scene.changed("pay(1, 11, 1)", 0, Scene::full, x -> x.pay(1, 11, 1));
        Due.promise(6, "Lets a peer pay to another one: it owes so much less to it.");
        PeerStorage x = Scene.full();
        x.pay(1, 11, 1);
        Due.is("balance of the other one then", 0, x.balance(11, 1));
        Due.is("balance of the other one with another", 0, x.balance(11, 0));
        Due.is("balance with another", 1, x.balance(1, 10));
        Due.is("its sum", -5, x.peerInfo(11, 5));
        Due.promise(6, "NOT_POSSIBLE if it owes less than amount to it.");
        Scene.refused("pay 6 of 5", Due.IMPOSSIBLE, PeersEdgesTest::owingFive, y -> y.pay(0, 1, 6));
        Scene.refused("pay 1000 of 5", Due.IMPOSSIBLE, PeersEdgesTest::owingFive, y -> y.pay(0, 1, 1000));
        Scene.refused("pay 1 of -5", Due.IMPOSSIBLE, PeersEdgesTest::owingFive, y -> y.pay(1, 0, 1));
        Scene.refused("pay 1 of 0", Due.IMPOSSIBLE, Scene::full, y -> y.pay(11, 10, 1));
        // Those that are offline may pay and be paid.
        PeerStorage z = owingFive();
        z.setOnline(0, 0);
        z.setOnline(1, 0);
        Due.is("pay among peers that are offline", 0, z.pay(0, 1, 5));
    }

    private static void peerInfoRange() {
        Due.promise(7, "`what`: 0: its space; 1: its free space; 2: 1 if it is online, else 0; 3: its trust; "
            + "4: the number of its files; 5: the sum of its balances with all others");
        Scene.outside("peerInfo(0, ..)", 0, 5, Scene::full, (x, what) -> x.peerInfo(0, what));
        Due.promise(7, "`peer`: number of the peer");
        Scene.noSuchPeer("peerInfo 0", (x, peer) -> x.peerInfo(peer, 0));
        Scene.noSuchPeer("peerInfo 5", (x, peer) -> x.peerInfo(peer, 5));
        Scene.noSuchPeer("peerInfo 6", (x, peer) -> x.peerInfo(peer, 6));
        // Peer 0 is in debt for nine fragments, and six peers are so for one on it.
        int[] first = {40, 33, 1, 50, 1, 3};
        int[] last = {40, 34, 1, 50, 0, -6};
        for (int what = 0; what <= 5; what++) {
            int w = what;
            Scene.asked("peerInfo(0, " + w + ")", first[w], Scene::full, x -> x.peerInfo(0, w));
            Scene.asked("peerInfo(11, " + w + ")", last[w], Scene::full, x -> x.peerInfo(11, w));
        }
    }

    private static void peerInfoAnswers() {
        Due.promise(7, "Returns the value; INVALID_ARGUMENT.");
        PeerStorage x = loaded(1);
        int[][] due = {{8, 8, 1, 50, 8, 8}, {40, 32, 1, 55, 0, -8}, {1, 1, 1, 50, 0, 0}};
        for (int peer = 0; peer < 3; peer++) {
            for (int what = 0; what <= 5; what++) {
                Due.is("peerInfo(" + peer + ", " + what + ")", due[peer][what], x.peerInfo(peer, what));
            }
        }
        x.setOnline(1, 0);
        Due.is("free space of one offline", 32, x.peerInfo(1, 1));
        Due.is("it is offline", 0, x.peerInfo(1, 2));
        Due.is("its trust", 55, x.peerInfo(1, 3));
        PeerStorage y = Scene.alike(1, 1);
        Due.is("sum without others", 0, y.peerInfo(0, 5));
        // What one owes, another is owed.
        PeerStorage z = Scene.full();
        int sum = 0;
        for (int peer = 0; peer < 12; peer++) {
            sum += z.peerInfo(peer, 5);
        }
        Due.is("all sums together", 0, sum);
    }

    private static void balanceAnswers() {
        Due.promise(8, "Returns how much the peer owes to the other one, possibly negative; "
            + "INVALID_ARGUMENT, also if both are the same.");
        Scene.asked("balance(1, 11)", 1, Scene::full, x -> x.balance(1, 11));
        Scene.asked("balance(11, 1)", -1, Scene::full, x -> x.balance(11, 1));
        Scene.asked("balance(11, 10)", 0, Scene::full, x -> x.balance(11, 10));
        Scene.asked("balance(0, 1)", 5, PeersEdgesTest::owingFive, x -> x.balance(0, 1));
        Scene.asked("balance(1, 0)", -5, PeersEdgesTest::owingFive, x -> x.balance(1, 0));
        for (int peer = 0; peer < 12; peer++) {
            int p = peer;
            Scene.refused("balance of " + p + " with itself", Due.INVALID, Scene::full, x -> x.balance(p, p));
        }
        Due.promise(8, "`peer`: number of the peer");
        Scene.noSuchPeer("balance of", (x, peer) -> x.balance(peer, 0));
        Due.promise(8, "`other`: number of another peer");
        Scene.noSuchPeer("balance with", (x, peer) -> x.balance(0, peer));
        Scene.noSuchPeer("balance of and with", (x, peer) -> x.balance(peer, peer));
    }
}
