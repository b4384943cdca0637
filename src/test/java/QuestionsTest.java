/** Promises 22 to 25: what would happen, and the counts. */
public final class QuestionsTest {
    public static void main(String[] args) {
        toleranceWithoutFiles();
        toleranceOfOwners();
        toleranceOfReserves();
        toleranceOfStates();
        endangeredAnswers();
        endangeredRefused();
        leaversAnswers();
        leaversOneAfterTheOther();
        countAnswers();
        countRefused();
        Due.end();
    }

    private static void toleranceWithoutFiles() {
        Scene.refused("tolerance without peers", Due.IMPOSSIBLE, PeerStorage::new, PeerStorage::tolerance);
        PeerStorage x = new PeerStorage();
        for (int peers = 1; peers <= 12; peers++) {
            x.join(1);
            Due.is("tolerance of " + peers + " peers", Math.min(peers, 4), x.tolerance());
        }
    }

    /** File 0 of peer 0, one word, on peer 1 alone. */
    private static PeerStorage onAnother(int peers) {
        PeerStorage x = Scene.peers(1, 2);
        Scene.file(x, 0, 0, 5);
        for (int peer = 2; peer < peers; peer++) {
            x.join(1);
        }
        return x;
    }

    private static void toleranceOfOwners() {
        // One crash may lose the file, but all at once take the owner with them.
        for (int peers = 2; peers <= 4; peers++) {
            Due.is("tolerance if all " + peers + " may crash", peers, onAnother(peers).tolerance());
        }
        for (int peers = 5; peers <= 12; peers++) {
            Due.is("tolerance if one of " + peers + " may not", 0, onAnother(peers).tolerance());
        }
        PeerStorage x = Scene.peers(2, 1, 1, 1, 1, 1);
        Scene.file(x, 0, 0, 5);
        Due.is("tolerance of a file on its owner", 4, x.tolerance());
        PeerStorage y = Scene.peers(2, 1, 1, 1, 1, 1);
        Scene.file(y, 0, 2, 5);
        Due.is("tolerance of a file on its owner and two more", 4, y.tolerance());
        PeerStorage z = Scene.peers(1, 2, 2, 2, 1, 1);
        Scene.file(z, 0, 2, 5);
        Due.is("tolerance of a file on three others", 2, z.tolerance());
    }

    private static void toleranceOfReserves() {
        for (int parity = 0; parity <= 4; parity++) {
            PeerStorage x = Scene.peers(9, 9, 9, 9, 9, 9, 9, 9);
            Scene.file(x, 7, parity, 1, 2);
            Due.is("tolerance of parity " + parity, parity, x.tolerance());
            Scene.file(x, 7, Math.max(parity - 1, 0), 1, 2);
            Due.is("tolerance of the weaker file", Math.max(parity - 1, 0), x.tolerance());
        }
    }

    private static void toleranceOfStates() {
        Scene.asked("tolerance of the village", 1, Scene::village, PeerStorage::tolerance);
        PeerStorage x = Scene.village();
        x.setOnline(3, 1);
        Due.is("tolerance with file 1 on two others", 1, x.tolerance());
        x.delete(1);
        Due.is("tolerance of four good fragments for two", 2, x.tolerance());
        x.spoil(0, 1, 248);
        Due.is("tolerance of five for two", 3, x.tolerance());
        x.setOnline(2, 0);
        x.setOnline(3, 0);
        Due.is("tolerance of three for two", 1, x.tolerance());
        x.setOnline(4, 0);
        Due.is("tolerance of two for two", 0, x.tolerance());
        x.setOnline(1, 0);
        Due.is("files that are not safe do not count", 4, x.tolerance());
    }

    private static void endangeredAnswers() {
        for (int peer = 0; peer < 5; peer++) {
            int p = peer;
            Scene.asked("endangered(" + p + ")", 0, Scene::village, x -> x.endangered(p));
        }
        PeerStorage x = Scene.village();
        x.setOnline(4, 0);
        int[] due = {1, 1, 1, 0, 0};
        for (int peer = 0; peer < 5; peer++) {
            Due.is("endangered(" + peer + ") then", due[peer], x.endangered(peer));
        }
        x.setOnline(0, 0);
        Due.is("a file that is not safe does not count", 0, x.endangered(1));
        Due.is("the other one does", 1, x.endangered(2));
        PeerStorage y = Scene.peers(1, 9);
        for (int i = 0; i < 8; i++) {
            Scene.file(y, 0, 0, i);
        }
        Due.is("endangered by the one with eight", 8, y.endangered(1));
        Due.is("endangered by the owner without any", 0, y.endangered(0));
    }

    private static void endangeredRefused() {
        PeerStorage x = Scene.village();
        Due.is("endangered(5)", Due.INVALID, x.endangered(5));
        Due.is("endangered(12)", Due.INVALID, x.endangered(12));
        for (int wild : Due.WILD) {
            Due.is("endangered(" + wild + ")", Due.INVALID, x.endangered(wild));
        }
    }

    private static void leaversAnswers() {
        Scene.asked("leavers without peers", 0, PeerStorage::new, PeerStorage::leavers);
        Scene.asked("leavers of the village", 0, Scene::village, PeerStorage::leavers);
        PeerStorage x = Scene.peers(1, 1, 1, 1, 1, 1, 1, 1, 1, 1, 1, 1);
        Due.is("all may leave", 12, x.leavers());
        x.setOnline(5, 0);
        Due.is("all that are online", 11, x.leavers());
        x.setOnline(5, 1);
        Scene.file(x, 3, 0, 1);
        Due.is("all but the owner", 11, x.leavers());
        PeerStorage y = Scene.peers(5, 1, 1);
        Scene.file(y, 0, 1, 1);
        Due.is("one may leave, then the other not", 1, y.leavers());
        y.delete(0);
        Due.is("then all may", 3, y.leavers());
    }

    private static void leaversOneAfterTheOther() {
        Scene.asked("leavers with room", 1, Scene::withRoom, PeerStorage::leavers);
        // Fragments of the first leaver stand in the way of the next one.
        PeerStorage x = Scene.peers(1, 1, 1, 1, 2, 1);
        Scene.file(x, 0, 1, 1);
        Due.is("fragments on peers 4 and 0", 40, 10 * x.fragment(0, 0, 0) + x.fragment(0, 1, 0));
        Due.is("leavers: 1, 2, 3, and 4, whose fragment goes to 5", 4, x.leavers());
        PeerStorage y = Scene.peers(3, 1, 1, 2);
        Scene.file(y, 0, 1, 1);
        Scene.file(y, 0, 1, 2);
        Due.is("leavers: 1 and 2, but then 3 not", 2, y.leavers());
    }

    private static void countAnswers() {
        int[] due = {5, 2, 2, 7, 1, 5, 1, 5, 6};
        for (int what = 0; what < due.length; what++) {
            int w = what;
            Scene.asked("count(" + w + ")", due[w], Scene::village, x -> x.count(w));
        }
        PeerStorage x = Scene.village();
        x.setOnline(4, 0);
        x.setOnline(0, 0);
        Due.is("one file is not safe", 1, x.count(2));
        Due.is("free space of those online", 2, x.count(5));
        Due.is("what is offline is still stored", 7, x.count(3));
        x.spoil(0, 2, 1);
        Due.is("what is offline is spoiled too", 2, x.count(4));
        x.pay(0, 1, 1);
        Due.is("debts", 5, x.count(8));
    }

    private static void countRefused() {
        PeerStorage x = Scene.village();
        Due.is("count(9)", Due.INVALID, x.count(9));
        Due.is("count(-1)", Due.INVALID, x.count(-1));
        for (int wild : Due.WILD) {
            Due.is("count(" + wild + ")", Due.INVALID, x.count(wild));
        }
    }
}
