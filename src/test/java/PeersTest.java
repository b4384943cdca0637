/** Promises 1 to 8: a new object, and the calls on peers. */
public final class PeersTest {
    public static void main(String[] args) {
        newObject();
        joinNumbers();
        joinRefused();
        joinAfresh();
        leavePlaces();
        leaveLoses();
        leaveRefused();
        crashLoses();
        crashOfAnOwner();
        setOnlineAnswers();
        payAnswers();
        payRefused();
        peerInfoAnswers();
        balanceAnswers();
        Due.end();
    }

    private static void newObject() {
        PeerStorage x = new PeerStorage();
        for (int what = 0; what <= 8; what++) {
            Due.is("new: count(" + what + ")", 0, x.count(what));
        }
        for (int peer = 0; peer < 12; peer++) {
            Due.is("new: peerInfo", Due.INVALID, x.peerInfo(peer, 0));
        }
        for (int file = 0; file < 8; file++) {
            Due.is("new: fileInfo", Due.INVALID, x.fileInfo(file, 0));
        }
        Due.is("new: leavers()", 0, x.leavers());
        Due.is("new: tolerance()", Due.IMPOSSIBLE, x.tolerance());
        Due.is("new: undo()", Due.IMPOSSIBLE, x.undo());
        x.join(5);
        x.word(1);
        PeerStorage other = new PeerStorage();
        Due.is("new beside another: count(0)", 0, other.count(0));
        Due.is("new beside another: count(6)", 0, other.count(6));
    }

    private static void joinNumbers() {
        PeerStorage x = new PeerStorage();
        for (int peer = 0; peer < 12; peer++) {
            Due.is("join", peer, x.join(peer == 0 ? 1 : 40));
        }
        Due.is("join as the thirteenth", Due.LIMIT, x.join(1));
        Due.is("join as the thirteenth with no space", Due.INVALID, x.join(0));
        Due.is("12 peers: count(0)", 12, x.count(0));
        Due.is("leave(7)", 0, x.leave(7));
        Due.is("crash(3)", 0, x.crash(3));
        Due.is("join takes the lowest number", 3, x.join(1));
        Due.is("join takes the next one", 7, x.join(1));
        Due.is("join when full again", Due.LIMIT, x.join(1));
        Scene.changed("join(40)", 5, Scene::village, y -> y.join(40));
        Scene.changed("join(1)", 0, PeerStorage::new, y -> y.join(1));
    }

    private static void joinRefused() {
        Scene.refused("join(0)", Due.INVALID, Scene::village, x -> x.join(0));
        Scene.refused("join(41)", Due.INVALID, Scene::village, x -> x.join(41));
        for (int wild : Due.WILD) {
            Scene.refused("join(" + wild + ")", Due.INVALID, Scene::village, x -> x.join(wild));
        }
    }

    private static void joinAfresh() {
        PeerStorage x = Scene.village();
        x.audit(0, 2, 1);
        Due.is("trust after a failed audit", 25, x.peerInfo(2, 3));
        x.crash(2);
        Due.is("join(7)", 2, x.join(7));
        int[] due = {7, 7, 1, 50, 0, 0};
        for (int what = 0; what < due.length; what++) {
            Due.is("peerInfo of one that joined afresh, " + what, due[what], x.peerInfo(2, what));
        }
        for (int other : new int[] {0, 1, 3, 4}) {
            Due.is("balance of one that joined afresh", 0, x.balance(other, 2));
        }
    }

    private static void leavePlaces() {
        PeerStorage x = Scene.village();
        x.join(1);
        x.join(40);
        x.join(2);
        x.setOnline(6, 0);
        Due.is("leave(4)", 0, x.leave(4));
        Due.is("leave(4): file 0 goes to the greatest free space", 7, x.fragment(0, 0, 0));
        Due.is("leave(4): its value", 11, x.fragment(0, 0, 1));
        // Both have one free unit now, so the lowest number: 0 stores no fragment of file 1.
        Due.is("leave(4): file 1 goes to the lowest number", 0, x.fragment(1, 0, 0));
        Due.is("leave(4): the owner of file 0 owes for it", 1, x.balance(0, 7));
        Due.is("leave(4): the owner of file 1 owes for it", 0, x.balance(0, 1));
        Due.is("leave(4): peer 4 is gone", Due.INVALID, x.peerInfo(4, 0));
        Due.is("leave(4): nobody owes to peer 4", Due.INVALID, x.balance(0, 4));
        Due.is("leave(4): sum of peer 0", 1 + 1 + 1 - 1 + 1, x.peerInfo(0, 5));
        Due.is("leave(4): positive balances", 4, x.count(8));
        Due.is("leave(2): a spoiled one goes as it is", 0, x.leave(2));
        Due.is("leave(2): file 0", 5, x.fragment(0, 1, 0));
        Due.is("leave(2): file 0, value", 31, x.fragment(0, 1, 1));
        Due.is("leave(2): still spoiled", 1, x.count(4));
        Due.is("leave(2): file 1 goes to its owner", 1, x.fragment(1, 1, 0));
        Due.is("leave(2): an owner owes nothing to itself", 0, x.peerInfo(1, 5));
        Scene.changed("leave(2)", 0, Scene::withRoom, y -> y.leave(2));
    }

    private static void leaveLoses() {
        PeerStorage x = Scene.peers(1, 1, 2);
        Scene.file(x, 0, 2, 5);
        Due.is("fragment 0 on the greatest space", 2, x.fragment(0, 0, 0));
        Due.is("leave(2) loses one", 1, x.leave(2));
        Due.is("leave(2): lost", Due.MISSING, x.fragment(0, 0, 0));
        Due.is("leave(2): the debt is gone", 1, x.count(8));
        Due.is("leave(1) loses another", 1, x.leave(1));
        Due.is("leave(1): one is left", 1, x.count(3));
        Due.is("leave(1): no debts", 0, x.count(8));
        // Of two fragments on the leaving peer, the first file takes the only free unit.
        PeerStorage y = Scene.peers(1, 2);
        Scene.file(y, 0, 0, 1);
        Scene.file(y, 0, 0, 2);
        Due.is("the first file on peer 1", 1, y.fragment(0, 0, 0));
        Due.is("the second file on peer 0", 0, y.fragment(1, 0, 0));
        y.delete(1);
        Scene.file(y, 0, 1, 3);
        Due.is("the third file on peer 0 too", 0, y.fragment(1, 0, 0));
        Due.is("the third file on peer 1 too", 1, y.fragment(1, 1, 0));
        y.join(1);
        Due.is("leave(1) with room for one of two", 1, y.leave(1));
        Due.is("leave(1): the first file found it", 2, y.fragment(0, 0, 0));
        Due.is("leave(1): the second one not", Due.MISSING, y.fragment(1, 1, 0));
    }

    private static void leaveRefused() {
        Scene.refused("leave of an owner", Due.IMPOSSIBLE, Scene::village, x -> x.leave(0));
        Scene.refused("leave when offline", Due.IMPOSSIBLE, Scene::village, x -> x.leave(3));
        Scene.refused("leave of none", Due.INVALID, Scene::village, x -> x.leave(5));
        Scene.refused("leave(12)", Due.INVALID, Scene::village, x -> x.leave(12));
        for (int wild : Due.WILD) {
            Scene.refused("leave(" + wild + ")", Due.INVALID, Scene::village, x -> x.leave(wild));
        }
    }

    private static void crashLoses() {
        PeerStorage x = Scene.village();
        Due.is("crash(4)", 2, x.crash(4));
        Due.is("crash(4): lost", Due.MISSING, x.fragment(0, 0, 0));
        Due.is("crash(4): lost of the other", Due.MISSING, x.fragment(1, 0, 0));
        Due.is("crash(4): the others stay", 5, x.count(3));
        Due.is("crash(4): debts to it are gone", 3, x.peerInfo(0, 5));
        Due.is("crash(3), which is offline", 1, x.crash(3));
        Due.is("crash(3): peers", 3, x.count(0));
        Due.is("crash again", Due.INVALID, x.crash(3));
        Scene.changed("crash(4)", 2, Scene::village, y -> y.crash(4));
        Scene.refused("crash of none", Due.INVALID, Scene::village, y -> y.crash(5));
        Scene.refused("crash(12)", Due.INVALID, Scene::village, y -> y.crash(12));
        for (int wild : Due.WILD) {
            Scene.refused("crash(" + wild + ")", Due.INVALID, Scene::village, y -> y.crash(wild));
        }
    }

    private static void crashOfAnOwner() {
        PeerStorage x = Scene.village();
        Due.is("crash of the owner of file 0, which has none of file 1", 0, x.crash(0));
        Due.is("its file is deleted", Due.INVALID, x.fileInfo(0, 0));
        Due.is("the other file stays", 1, x.fileInfo(1, 0));
        Due.is("only the other file is stored", 2, x.count(3));
        Due.is("its space is free again", 3, x.peerInfo(4, 1));
        Due.is("nothing spoiled is left", 0, x.count(4));
        PeerStorage y = Scene.village();
        Due.is("crash of the owner of file 1, with one of file 0", 1, y.crash(1));
        Due.is("files", 1, y.count(1));
        Due.is("stored", 4, y.count(3));
        Due.is("lost", Due.MISSING, y.fragment(0, 4, 0));
        Scene.changed("crash(1)", 1, Scene::village, z -> z.crash(1));
    }

    private static void setOnlineAnswers() {
        PeerStorage x = Scene.village();
        Due.is("setOnline(3, 1)", 0, x.setOnline(3, 1));
        Due.is("online then", 1, x.peerInfo(3, 2));
        Due.is("setOnline(3, 1) again", 1, x.setOnline(3, 1));
        Due.is("setOnline(3, 0)", 1, x.setOnline(3, 0));
        Due.is("offline then", 0, x.peerInfo(3, 2));
        Due.is("its fragments stay", 3, x.fragment(0, 2, 0));
        Scene.changed("setOnline(2, 0)", 1, Scene::village, y -> y.setOnline(2, 0));
        Scene.changed("setOnline to what it is", 0, Scene::village, y -> y.setOnline(3, 0));
        Scene.refused("setOnline(0, 2)", Due.INVALID, Scene::village, y -> y.setOnline(0, 2));
        Scene.refused("setOnline of none", Due.INVALID, Scene::village, y -> y.setOnline(5, 1));
        Scene.refused("setOnline(12, 1)", Due.INVALID, Scene::village, y -> y.setOnline(12, 1));
        for (int wild : Due.WILD) {
            Scene.refused("setOnline(wild, 1)", Due.INVALID, Scene::village, y -> y.setOnline(wild, 1));
            Scene.refused("setOnline(0, wild)", Due.INVALID, Scene::village, y -> y.setOnline(0, wild));
        }
    }

    private static PeerStorage inDebt() {
        PeerStorage x = Scene.peers(1, 8);
        for (int file = 0; file < 5; file++) {
            Scene.file(x, 0, 1, 7);
        }
        return x;
    }

    private static void payAnswers() {
        PeerStorage x = inDebt();
        Due.is("owed for five fragments", 5, x.balance(0, 1));
        Due.is("pay(0, 1, 2)", 3, x.pay(0, 1, 2));
        Due.is("balance then", 3, x.balance(0, 1));
        Due.is("balance of the other", -3, x.balance(1, 0));
        Due.is("pay more than owed", Due.IMPOSSIBLE, x.pay(0, 1, 4));
        Due.is("pay all", 0, x.pay(0, 1, 3));
        Due.is("pay when nothing is owed", Due.IMPOSSIBLE, x.pay(0, 1, 1));
        Scene.changed("pay(0, 1, 5)", 0, PeersTest::inDebt, y -> y.pay(0, 1, 5));
    }

    private static void payRefused() {
        Scene.refused("pay of the one that is owed", Due.IMPOSSIBLE, PeersTest::inDebt, x -> x.pay(1, 0, 1));
        Scene.refused("pay(0, 1, 6)", Due.IMPOSSIBLE, PeersTest::inDebt, x -> x.pay(0, 1, 6));
        Scene.refused("pay(0, 1, 1000)", Due.IMPOSSIBLE, PeersTest::inDebt, x -> x.pay(0, 1, 1000));
        Scene.refused("pay(0, 1, 1001)", Due.INVALID, PeersTest::inDebt, x -> x.pay(0, 1, 1001));
        Scene.refused("pay(0, 1, 0)", Due.INVALID, PeersTest::inDebt, x -> x.pay(0, 1, 0));
        Scene.refused("pay(0, 0, 1)", Due.INVALID, PeersTest::inDebt, x -> x.pay(0, 0, 1));
        Scene.refused("pay(0, 2, 1)", Due.INVALID, PeersTest::inDebt, x -> x.pay(0, 2, 1));
        Scene.refused("pay(2, 0, 1)", Due.INVALID, PeersTest::inDebt, x -> x.pay(2, 0, 1));
        Scene.refused("pay(0, 12, 1)", Due.INVALID, PeersTest::inDebt, x -> x.pay(0, 12, 1));
        for (int wild : Due.WILD) {
            Scene.refused("pay(wild, 1, 1)", Due.INVALID, PeersTest::inDebt, x -> x.pay(wild, 1, 1));
            Scene.refused("pay(0, wild, 1)", Due.INVALID, PeersTest::inDebt, x -> x.pay(0, wild, 1));
            Scene.refused("pay(0, 1, wild)", Due.INVALID, PeersTest::inDebt, x -> x.pay(0, 1, wild));
        }
    }

    private static void peerInfoAnswers() {
        int[][] due = {
            {2, 1, 1, 50, 1, 4}, {2, 1, 1, 50, 1, 1}, {3, 1, 1, 50, 0, -2},
            {3, 2, 0, 50, 0, -1}, {4, 2, 1, 50, 0, -2}};
        for (int peer = 0; peer < due.length; peer++) {
            for (int what = 0; what < due[peer].length; what++) {
                int p = peer;
                int w = what;
                Scene.asked("peerInfo(" + p + ", " + w + ")", due[p][w], Scene::village, x -> x.peerInfo(p, w));
            }
        }
        PeerStorage x = Scene.village();
        Due.is("peerInfo(0, 6)", Due.INVALID, x.peerInfo(0, 6));
        Due.is("peerInfo(5, 0)", Due.INVALID, x.peerInfo(5, 0));
        Due.is("peerInfo(12, 0)", Due.INVALID, x.peerInfo(12, 0));
        for (int wild : Due.WILD) {
            Due.is("peerInfo(wild, 0)", Due.INVALID, x.peerInfo(wild, 0));
            Due.is("peerInfo(0, wild)", Due.INVALID, x.peerInfo(0, wild));
        }
    }

    private static void balanceAnswers() {
        int[][] due = {
            {0, 1, 1, 1, 1}, {-1, 0, 1, 0, 1}, {-1, -1, 0, 0, 0}, {-1, 0, 0, 0, 0}, {-1, -1, 0, 0, 0}};
        for (int peer = 0; peer < 5; peer++) {
            for (int other = 0; other < 5; other++) {
                int p = peer;
                int o = other;
                int want = p == o ? Due.INVALID : due[p][o];
                Scene.asked("balance(" + p + ", " + o + ")", want, Scene::village, x -> x.balance(p, o));
            }
        }
        PeerStorage x = Scene.village();
        Due.is("balance(0, 5)", Due.INVALID, x.balance(0, 5));
        Due.is("balance(5, 0)", Due.INVALID, x.balance(5, 0));
        for (int wild : Due.WILD) {
            Due.is("balance(wild, 0)", Due.INVALID, x.balance(wild, 0));
            Due.is("balance(0, wild)", Due.INVALID, x.balance(0, wild));
            Due.is("balance(wild, wild)", Due.INVALID, x.balance(wild, wild));
        }
    }
}
