/** The boundary cases of promises 22 to 25: what would happen, and the counts. */
public final class QuestionsEdgesTest {
    public static void main(String[] args) {
        toleranceOfNumbers();
        toleranceOfReserves();
        toleranceOfOwners();
        toleranceOfUnsafe();
        toleranceAnswers();
        endangeredByReserve();
        endangeredAnswers();
        leaversAnswers();
        leaversInTurn();
        countRange();
        countAnswers();
        Due.end();
    }

    private static void toleranceOfNumbers() {
        Due.promise(22, "Finds how many peers can crash at once without a file becoming unsafe that is safe now: "
            + "the greatest number n, at most 4 and at most the number of peers, "
            + "for which each set of n peers can crash (owners included, whose files do not count then); "
            + "it need not be so for a smaller number.");
        for (int peers = 1; peers <= 12; peers++) {
            PeerStorage x = Scene.alike(peers, 1);
            Due.is("tolerance of " + peers, Math.min(peers, 4), x.tolerance());
            for (int peer = 0; peer < peers; peer++) {
                x.setOnline(peer, 0);
            }
            Due.is("tolerance of " + peers + " offline", Math.min(peers, 4), x.tolerance());
        }
        // One crash loses the file of peer 0 on peer 1; only all at once take the owner too.
        for (int peers = 2; peers <= 12; peers++) {
            PeerStorage x = Scene.peers(1, 2);
            Scene.file(x, 0, 0, 5);
            for (int peer = 2; peer < peers; peer++) {
                x.join(1);
            }
            Due.is("tolerance of a weak file among " + peers, peers <= 4 ? peers : 0, x.tolerance());
        }
    }

    private static void toleranceOfReserves() {
        // The owner has none of the fragments.
        for (int k = 1; k <= 6; k++) {
            for (int m = 0; m <= 4; m++) {
                PeerStorage x = Scene.alike(12, 9);
                Scene.file(x, 11, m, new int[k]);
                Due.is("tolerance of " + k + " + " + m, m, x.tolerance());
                if (m > 0) {
                    x.spoil(0, 0, 1);
                    Due.is("tolerance of " + k + " + " + m + ", one spoiled", m - 1, x.tolerance());
                    x.undo();
                    x.setOnline(k, 0);
                    Due.is("tolerance of " + k + " + " + m + ", one offline", m - 1, x.tolerance());
                    x.setOnline(k, 1);
                    x.crash(0);
                    Due.is("tolerance of " + k + " + " + m + ", one lost", m - 1, x.tolerance());
                }
            }
        }
        // The weakest file decides, whichever number it has; the owner has too little space for any.
        for (int weak = 0; weak < 8; weak++) {
            PeerStorage x = Scene.alike(11, 40);
            x.join(1);
            for (int file = 0; file < 8; file++) {
                Scene.file(x, 11, file == weak ? 1 : 4, 7);
            }
            Due.is("tolerance with the weak file " + weak, 1, x.tolerance());
            x.delete(weak);
            Due.is("tolerance without it", 4, x.tolerance());
        }
    }

    private static void toleranceOfOwners() {
        // Two fragments of one word each, one of them on the owner: no set without the owner loses both.
        PeerStorage x = Scene.peers(2, 1, 1, 1, 1, 1);
        Scene.file(x, 0, 1, 5);
        Due.is("one fragment on the owner", 4, x.tolerance());
        // Two words, one on the owner, none to spare.
        PeerStorage y = Scene.peers(2, 1, 1, 1, 1, 1);
        Scene.file(y, 0, 0, 5, 6);
        Due.is("two words, one on the owner", 0, y.tolerance());
        PeerStorage z = Scene.peers(2, 1, 1, 1, 1, 1);
        Scene.file(z, 0, 2, 5, 6);
        Due.is("two words, one of four on the owner", 2, z.tolerance());
        z.setOnline(0, 0);
        Due.is("the owner offline", 1, z.tolerance());
        // Three words on four of four peers: a set of three without the owner breaks the file, all four do not.
        PeerStorage v = Scene.alike(4, 1);
        Scene.file(v, 0, 1, 1, 2, 3);
        Due.is("all four peers", 4, v.tolerance());
        v.join(1);
        Due.is("with a fifth peer", 1, v.tolerance());
    }

    private static void toleranceOfUnsafe() {
        PeerStorage x = Scene.alike(6, 9);
        Scene.file(x, 5, 0, 1);
        Due.is("a safe file", 0, x.tolerance());
        x.spoil(0, 0, 1);
        Due.is("one that is not safe does not count", 4, x.tolerance());
        Scene.file(x, 5, 2, 1);
        Due.is("only the safe one counts", 2, x.tolerance());
        x.spoil(0, 0, 256);
        Due.is("safe again, it counts", 0, x.tolerance());
    }

    private static void toleranceAnswers() {
        Due.promise(22, "Returns n; NOT_POSSIBLE if there are no peers.");
        Scene.refused("no peers", Due.IMPOSSIBLE, PeerStorage::new, PeerStorage::tolerance);
        Scene.refused("no peers any more", Due.IMPOSSIBLE, QuestionsEdgesTest::allGone, PeerStorage::tolerance);
        Scene.asked("one peer", 1, () -> Scene.alike(1, 1), PeerStorage::tolerance);
        Scene.asked("all full", 4, Scene::full, PeerStorage::tolerance);
        PeerStorage x = Scene.alike(1, 1);
        x.undo();
        Due.is("the first join undone", Due.IMPOSSIBLE, x.tolerance());
    }

    private static PeerStorage allGone() {
        PeerStorage x = Scene.alike(3, 2);
        Scene.file(x, 0, 1, 5);
        x.crash(0);
        x.leave(1);
        x.crash(2);
        x.word(7);
        return x;
    }

    private static void endangeredByReserve() {
        Due.promise(23, "Counts the files that are safe now and would be unsafe if a peer were offline.");
        // Fragments 0 to 3 of two words on peers 0 to 3; peer 4 owns the file and has nothing.
        PeerStorage x = Scene.alike(5, 1);
        Scene.file(x, 4, 2, 7, 8);
        endangeredAre("reserve 2", x, 0, 0, 0, 0, 0);
        x.spoil(0, 3, 1);
        endangeredAre("reserve 1", x, 0, 0, 0, 0, 0);
        x.setOnline(2, 0);
        endangeredAre("reserve 0", x, 1, 1, 0, 0, 0);
        x.crash(1);
        endangeredAre("reserve -1", x, 0, Due.INVALID, 0, 0, 0);
        x.spoil(0, 3, 256);
        endangeredAre("reserve 0 again", x, 1, Due.INVALID, 0, 1, 0);
        x.setOnline(2, 1);
        endangeredAre("reserve 1 again", x, 0, Due.INVALID, 0, 0, 0);
    }

    private static void endangeredAre(String what, PeerStorage x, int... due) {
        for (int peer = 0; peer < due.length; peer++) {
            Due.is(what + ": endangered(" + peer + ")", due[peer], x.endangered(peer));
        }
    }

    private static void endangeredAnswers() {
        Due.promise(23, "Returns the number of files; INVALID_ARGUMENT.");
        PeerStorage x = Scene.peers(1, 40);
        for (int file = 0; file < 8; file++) {
            Due.is("endangered(1) with " + file, file, x.endangered(1));
            Scene.file(x, 0, 0, file);
        }
        Due.is("endangered(1) with all", 8, x.endangered(1));
        Due.is("endangered(0), which owns them", 0, x.endangered(0));
        x.setOnline(1, 0);
        Due.is("endangered(1), which is offline", 0, x.endangered(1));
        Scene.asked("endangered(0), all full", 0, Scene::full, y -> y.endangered(0));
        Scene.asked("endangered(11), all full", 0, Scene::full, y -> y.endangered(11));
        Due.promise(23, "`peer`: number of the peer");
        Scene.noSuchPeer("endangered", PeerStorage::endangered);
    }

    private static void leaversAnswers() {
        Due.promise(24, "Returns the number of peers that could leave one after the other in good order (method leave), "
            + "each time the peer with the lowest number for which leave returns no error "
            + "and by whose leaving no fragment is lost.");
        Scene.asked("no peers", 0, PeerStorage::new, PeerStorage::leavers);
        for (int peers = 1; peers <= 12; peers++) {
            PeerStorage x = Scene.alike(peers, 1);
            Due.is("leavers of " + peers, peers, x.leavers());
            x.setOnline(peers - 1, 0);
            Due.is("leavers of " + peers + ", one offline", peers - 1, x.leavers());
        }
        PeerStorage x = Scene.full();
        // Peers 8 to 11 own nothing; ten must stay for the ten fragments of a file.
        Due.is("leavers of twelve with ten fragments", 2, x.leavers());
        x.leave(8);
        Due.is("leavers of eleven", 1, x.leavers());
        x.leave(9);
        Due.is("leavers of ten", 0, x.leavers());
        Due.is("nothing was lost", 80, x.count(3));
        PeerStorage y = Scene.alike(3, 2);
        Scene.file(y, 0, 0, 1);
        Scene.file(y, 1, 0, 1);
        Scene.file(y, 2, 0, 1);
        Due.is("all own a file", 0, y.leavers());
        y.delete(1);
        Due.is("one does not any more", 1, y.leavers());
        y.setOnline(1, 0);
        Due.is("but it is offline", 0, y.leavers());
    }

    private static void leaversInTurn() {
        // Both files of peer 0 are on peer 1, which leaves: one goes to 2, the other to 0 (a tie of one unit).
        PeerStorage x = Scene.peers(1, 3, 2);
        Scene.file(x, 0, 0, 1);
        Scene.file(x, 0, 0, 2);
        Due.is("both files on peer 1", 11, 10 * x.fragment(0, 0, 0) + x.fragment(1, 0, 0));
        Due.is("1 leaves, 2 finds no place then", 1, x.leavers());
        x.join(1);
        Due.is("2 finds a place on 3", 2, x.leavers());
        // There is a place for the fragment of peer 1 only where none of its file is.
        PeerStorage y = Scene.peers(1, 2, 1);
        Scene.file(y, 0, 1, 5);
        y.join(1);
        y.setOnline(2, 0);
        y.setOnline(3, 0);
        Due.is("on peers 1 and 0", 10, 10 * y.fragment(0, 0, 0) + y.fragment(0, 1, 0));
        Due.is("no place for it", 0, y.leavers());
        y.setOnline(3, 1);
        Due.is("a place on 3, from where it cannot go on", 1, y.leavers());
        y.setOnline(2, 1);
        Due.is("a place on 2, and then on 3", 2, y.leavers());
        // Peer 1 would lose one of two, and is passed over; peer 2 has nothing and may leave.
        PeerStorage z = Scene.peers(2, 3, 1);
        Scene.file(z, 0, 1, 5);
        Scene.file(z, 0, 1, 6);
        Due.is("leave(1) would lose one", 1, z.leave(1));
        z.undo();
        Due.is("leave(2) would lose none", 0, z.leave(2));
        z.undo();
        Due.is("2 leaves alone", 1, z.leavers());
        // File 0 is on peer 1, file 3 on peers 3 and 2; peers 0 and 3 own files and have a unit each.
        PeerStorage v = Scene.peers(3, 4, 1, 2);
        Scene.file(v, 0, 0, 1);
        v.setOnline(1, 0);
        Scene.file(v, 0, 0, 2);
        Scene.file(v, 3, 0, 3);
        v.setOnline(0, 0);
        Scene.file(v, 3, 1, 4);
        v.setOnline(0, 1);
        v.setOnline(1, 1);
        Due.is("1 goes to the lower number 0, and 2 finds no place", 1, v.leavers());
        v.spoil(2, 0, 1);
        Due.is("audit of peer 0", 0, v.audit(3, 0, 0));
        Due.is("1 goes to the greater trust on 3, and 2 to 0", 2, v.leavers());
        Due.promise(24, "Returns the number of peers.");
        Scene.asked("leavers of the village", 0, Scene::village, PeerStorage::leavers);
        Scene.asked("leavers with room", 1, Scene::withRoom, PeerStorage::leavers);
        Scene.asked("leavers of twelve", 2, Scene::full, PeerStorage::leavers);
    }

    private static void countRange() {
        Due.promise(25, "`what`: 0: peers; 1: files; 2: safe files; 3: stored fragments; 4: spoiled ones; "
            + "5: free space of all online peers; 6: words that wait; 7: states in the history; "
            + "8: the sum of all positive balances");
        int debts = positiveBalances(Scene.full());
        int[] full = {12, 8, 8, 80, 0, 400, 6, 5, debts};
        for (int what = 0; what <= 8; what++) {
            int w = what;
            Scene.asked("nothing: count(" + w + ")", 0, PeerStorage::new, x -> x.count(w));
            Scene.asked("all full: count(" + w + ")", full[w], Scene::full, x -> x.count(w));
        }
        PeerStorage x = Scene.full();
        for (int peer = 0; peer < 12; peer++) {
            x.setOnline(peer, 0);
        }
        Due.is("all offline: peers", 12, x.count(0));
        Due.is("all offline: safe files", 0, x.count(2));
        Due.is("all offline: stored fragments", 80, x.count(3));
        Due.is("all offline: free space", 0, x.count(5));
        Due.is("all offline: balances", debts, x.count(8));
        for (int file = 0; file < 8; file++) {
            for (int fragment = 0; fragment < 10; fragment++) {
                x.spoil(file, fragment, 1);
            }
        }
        Due.is("all spoiled", 80, x.count(4));
    }

    private static int positiveBalances(PeerStorage x) {
        int sum = 0;
        for (int peer = 0; peer < 12; peer++) {
            for (int other = 0; other < 12; other++) {
                sum += Math.max(0, x.balance(peer, other));
            }
        }
        return sum;
    }

    private static void countAnswers() {
        Due.promise(25, "Returns the number; INVALID_ARGUMENT.");
        Scene.outside("count", 0, 8, PeerStorage::new, PeerStorage::count);
        Scene.outside("count, all full", 0, 8, Scene::full, PeerStorage::count);
        // A balance counts once, for the one that owes, and not at all when it is paid.
        PeerStorage x = Scene.peers(1, 9);
        for (int file = 0; file < 8; file++) {
            Scene.file(x, 0, 0, file);
            Due.is("debts of " + (file + 1), file + 1, x.count(8));
        }
        x.pay(0, 1, 7);
        Due.is("a debt of 1", 1, x.count(8));
        x.pay(0, 1, 1);
        Due.is("no debt", 0, x.count(8));
        Due.is("free space on both", 2, x.count(5));
        x.setOnline(1, 0);
        Due.is("free space on the one that is online", 1, x.count(5));
        // Whichever number the debtor has.
        for (int owner = 0; owner < 12; owner++) {
            PeerStorage y = Scene.alike(12, 1);
            Scene.file(y, owner, 4, 1, 2, 3, 4, 5, 6);
            Due.is("debts of peer " + owner, owner < 10 ? 9 : 10, y.count(8));
        }
    }
}
