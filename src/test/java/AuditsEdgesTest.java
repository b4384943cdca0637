/** The boundary cases of promises 16 to 20, and those of the section "Terms" on audits and repairs. */
public final class AuditsEdgesTest {
    public static void main(String[] args) {
        spoilRange();
        spoilAnswers();
        auditOrder();
        auditPolynomials();
        auditTrust();
        auditOfNothing();
        auditRange();
        auditAnswers();
        passingSeedsAnswers();
        repairWhenSafe();
        repairOneByOne();
        repairEachKind();
        repairReads();
        repairAnswers();
        repairAllRange();
        repairAllInTurn();
        repairAllAnswers();
        Due.end();
    }

    /** File 0 of peer 4 with the words 7 and 8 on peers 0 to 3; fragments 0 and 3 are lost. */
    private static PeerStorage endsLost() {
        PeerStorage x = Scene.alike(5, 1);
        Scene.file(x, 4, 2, 7, 8);
        x.crash(0);
        x.crash(3);
        return x;
    }

    private static void spoilRange() {
        Due.promise(16, "`file`: number of the file");
        Scene.noSuchFile("spoil", (x, file) -> x.spoil(file, 0, 1));
        Scene.changed("spoil in the first file", 1, Scene::full, x -> x.spoil(0, 0, 1));
        Scene.changed("spoil in the last file", 1, Scene::full, x -> x.spoil(7, 0, 1));
        Due.promise(16, "`fragment`: 0 to k + m - 1");
        Scene.outside("spoil of ten", 0, 9, Scene::full, (x, fragment) -> x.spoil(7, fragment, 1));
        Scene.outside("spoil of two", 0, 1, Scene::gaps, (x, fragment) -> x.spoil(0, fragment, 1));
        Scene.changed("spoil of the last fragment", 1, Scene::full, x -> x.spoil(7, 9, 1));
        Due.promise(16, "`amount`: 1 to 256");
        Scene.outside("spoil by", 1, 256, Scene::full, (x, amount) -> x.spoil(0, 0, amount));
        Scene.changed("spoil by 1", 1, Scene::full, x -> x.spoil(0, 0, 1));
        Scene.changed("spoil by 256", 1, Scene::full, x -> x.spoil(0, 0, 256));
        PeerStorage x = Scene.full();
        x.spoil(7, 9, 256);
        Due.is("the value of the last fragment then", 124, x.fragment(7, 9, 1));
        Due.is("no other one is spoiled", 1, x.count(4));
    }

    private static PeerStorage spoiledBy(int amount) {
        PeerStorage x = Scene.full();
        x.spoil(3, 3, amount);
        return x;
    }

    private static void spoilAnswers() {
        Due.promise(16, "Returns 1 if it is spoiled then, else 0; INVALID_ARGUMENT; NOT_POSSIBLE if it is lost.");
        Scene.changed("up to 256", 1, () -> spoiledBy(255), x -> x.spoil(3, 3, 1));
        Scene.changed("up to 257", 0, () -> spoiledBy(256), x -> x.spoil(3, 3, 1));
        Scene.changed("up to 258", 1, () -> spoiledBy(256), x -> x.spoil(3, 3, 2));
        Scene.changed("up to 257 from 1", 0, () -> spoiledBy(1), x -> x.spoil(3, 3, 256));
        Scene.changed("up to 512", 1, () -> spoiledBy(256), x -> x.spoil(3, 3, 256));
        Scene.changed("on a peer that is offline", 1, Scene::village, x -> x.spoil(0, 2, 1));
        for (int amount : new int[] {1, 256}) {
            int a = amount;
            Scene.refused("the first one, lost", Due.IMPOSSIBLE, AuditsEdgesTest::endsLost, x -> x.spoil(0, 0, a));
            Scene.refused("the last one, lost", Due.IMPOSSIBLE, AuditsEdgesTest::endsLost, x -> x.spoil(0, 3, a));
        }
        // What was lost while it was spoiled is not spoiled any more, wherever it comes from.
        PeerStorage x = Scene.alike(3, 1);
        Scene.file(x, 2, 1, 9);
        x.spoil(0, 0, 100);
        x.crash(0);
        x.join(1);
        Due.is("repair", 1, x.repair(0));
        Due.is("its value", 9, x.fragment(0, 0, 1));
        Due.is("the rest of 257", 1, x.spoil(0, 0, 157));
    }

    /** Eight files of peer 0 with a fragment each on peer 1, spoiled by so much. */
    private static PeerStorage audited(int... amounts) {
        PeerStorage x = Scene.peers(1, 40);
        for (int file = 0; file < 8; file++) {
            Scene.file(x, 0, 0, 30 * file);
        }
        for (int file = 0; file < amounts.length; file++) {
            if (amounts[file] != 0) {
                x.spoil(file, 0, amounts[file]);
            }
        }
        return x;
    }

    private static void auditOrder() {
        Due.terms("An audit of a peer by another peer with a seed s (0 to 256) looks at all fragments on the peer "
            + "that belong to files of the auditor, by files, then by fragments.");
        for (int file = 0; file < 8; file++) {
            int[] amounts = new int[8];
            amounts[file] = 1;
            PeerStorage x = audited(amounts);
            Due.is("seed 0 with file " + file + " spoiled", file == 0 ? 0 : 1, x.audit(0, 1, 0));
            Due.is("seed 1 with file " + file + " spoiled", 0, x.audit(0, 1, 1));
            Due.is("seed 256 with file " + file + " spoiled", 0, x.audit(0, 1, 256));
            // Without the files before it, it is the first one.
            for (int before = 0; before < file; before++) {
                x.delete(before);
            }
            Due.is("seed 0 with file " + file + " as the first", 0, x.audit(0, 1, 0));
        }
        // The lower number comes first, though it was made later.
        PeerStorage y = audited(0, 5);
        y.delete(0);
        Due.is("seed 0, the spoiled one first", 0, y.audit(0, 1, 0));
        // Its trust back, peer 1 is the place for the next one too.
        y.undo();
        Scene.file(y, 0, 0, 99);
        Due.is("the new one is on peer 1", 1, y.fragment(0, 0, 0));
        Due.is("seed 0, the spoiled one second", 1, y.audit(0, 1, 0));
        // Numbers without a file, and files that have nothing on this peer, take no power of the seed.
        PeerStorage gap = audited(255, 0, 0, 1);
        gap.delete(1);
        gap.delete(2);
        Due.is("-2 + s with s = 2, two numbers between", 1, gap.audit(0, 1, 2));
        gap.setOnline(1, 0);
        Scene.file(gap, 0, 0, 7);
        Scene.file(gap, 0, 0, 7);
        gap.setOnline(1, 1);
        Due.is("file 1 on the owner", 0, gap.fragment(1, 0, 0));
        Due.is("file 2 without a place", Due.MISSING, gap.fragment(2, 0, 0));
        Due.is("-2 + s with s = 2, two files between", 1, gap.audit(0, 1, 2));
        gap.delete(1);
        Due.is("-2 + s with s = 2, one file between", 1, gap.audit(0, 1, 2));
        // Neither fragments of other owners nor those on other peers are looked at.
        PeerStorage z = Scene.alike(3, 9);
        Scene.file(z, 0, 2, 1);
        Scene.file(z, 2, 2, 2);
        z.spoil(0, 0, 1);
        z.spoil(0, 2, 1);
        z.spoil(1, 1, 1);
        Due.is("its own on peer 1 is correct", 1, z.audit(0, 1, 0));
        Due.is("one of another owner on peer 1 is not", 0, z.audit(2, 1, 0));
    }

    /** The coefficients of the polynomial that is 0 for these seeds alone. */
    private static int[] zeroFor(int... seeds) {
        int[] product = new int[seeds.length + 1];
        product[0] = 1;
        for (int seed : seeds) {
            for (int at = seeds.length; at >= 0; at--) {
                int lower = at > 0 ? product[at - 1] : 0;
                product[at] = Math.floorMod(lower - seed * product[at], 257);
            }
        }
        return product;
    }

    private static void passesFor(int... seeds) {
        PeerStorage x = audited(zeroFor(seeds));
        Due.is("seeds that pass", seeds.length, x.passingSeeds(0, 1));
        for (int seed = 0; seed <= 256; seed++) {
            boolean due = false;
            for (int one : seeds) {
                due |= one == seed;
            }
            Due.is("audit with seed " + seed, due ? 1 : 0, x.audit(0, 1, seed));
        }
    }

    private static void auditPolynomials() {
        Due.terms("The answer of the peer is the sum of f(n) * s to the power of n, n from 0 on in this order, "
            + "modulo 257, where f(n) is the value of the n-th fragment as it is stored; the expected answer "
            + "is the same with correct values (0 to the power of 0 is 1).");
        passesFor();
        passesFor(0);
        passesFor(1);
        passesFor(256);
        passesFor(0, 256);
        passesFor(1, 2, 3, 4, 5, 6, 7);
        passesFor(0, 1, 2, 100, 128, 255, 256);
        Due.is("none spoiled: seed 0", 1, audited().audit(0, 1, 0));
        Due.is("none spoiled: seed 256", 1, audited().audit(0, 1, 256));
        Due.is("only the last one spoiled: seed 0", 1, audited(0, 0, 0, 0, 0, 0, 0, 256).audit(0, 1, 0));
        // All are wrong, and the sums are equal.
        Due.is("257 in all with seed 1", 1, audited(250, 1, 1, 1, 1, 1, 1, 1).audit(0, 1, 1));
        Due.is("258 in all with seed 1", 0, audited(251, 1, 1, 1, 1, 1, 1, 1).audit(0, 1, 1));
        Due.is("8 * 256 with seed 256", 1, audited(256, 256, 256, 256, 256, 256, 256, 256).audit(0, 1, 256));
        Due.is("8 * 256 with seed 1", 0, audited(256, 256, 256, 256, 256, 256, 256, 256).audit(0, 1, 1));
    }

    /** Peer 1 of peers 0 and 1 passes an audit with seed 1 and fails with seed 0; it has failed so often. */
    private static PeerStorage failed(int times) {
        PeerStorage x = audited(1, 256);
        for (int time = 0; time < times; time++) {
            Due.is("an audit that fails", 0, x.audit(0, 1, 0));
        }
        return x;
    }

    private static void auditTrust() {
        Due.terms("If both are equal, the audit is passed, and the trust of the peer grows by 5, but not above 100; "
            + "otherwise it is halved (rounded down).");
        int[] halves = {50, 25, 12, 6, 3, 1, 0, 0};
        for (int times = 0; times < halves.length; times++) {
            PeerStorage x = failed(times);
            Due.is("trust after " + times + " failures", halves[times], x.peerInfo(1, 3));
            int trust = halves[times];
            for (int passed = 0; passed < 22; passed++) {
                Due.is("an audit that is passed", 1, x.audit(0, 1, 1));
                // From 25 it comes to 100 by a whole step, from 12, 6, 3 and 1 by less than one.
                trust = Math.min(100, trust + 5);
                Due.is("trust then", trust, x.peerInfo(1, 3));
                x.audit(0, 1, 0);
                Due.is("trust after another failure", trust / 2, x.peerInfo(1, 3));
                x.undo();
            }
            Due.is("trust of the auditor", 50, x.peerInfo(0, 3));
        }
    }

    private static void trustStays(PeerStorage x, int auditor, int trust) {
        Due.is("trust at first", trust, x.peerInfo(1, 3));
        for (int seed : new int[] {0, 1, 256}) {
            Due.is("audit of nothing", 1, x.audit(auditor, 1, seed));
            Due.is("trust stays", trust, x.peerInfo(1, 3));
        }
    }

    private static void auditOfNothing() {
        Due.terms("If there are no such fragments, the audit is passed, but the trust stays.");
        trustStays(Scene.alike(2, 1), 0, 50);
        int[] halves = {50, 25, 12, 6, 3, 1, 0};
        for (int times = 0; times < halves.length; times++) {
            PeerStorage x = failed(times);
            x.join(1);
            // Peer 2 owns nothing, though peer 1 has fragments, two of them spoiled.
            trustStays(x, 2, halves[times]);
        }
        // The auditor has a file, but not on this peer; then one that was there and is lost.
        PeerStorage y = Scene.peers(2, 1);
        Scene.file(y, 0, 0, 5);
        trustStays(y, 0, 50);
        PeerStorage z = Scene.peers(1, 2);
        Scene.file(z, 0, 0, 5);
        z.crash(1);
        z.join(2);
        trustStays(z, 0, 50);
        PeerStorage deleted = failed(1);
        for (int file = 0; file < 8; file++) {
            deleted.delete(file);
        }
        trustStays(deleted, 0, 25);
    }

    private static void auditRange() {
        Due.promise(17, "`auditor`: number of a peer");
        Scene.noSuchPeer("audit by", (x, auditor) -> x.audit(auditor, 0, 0));
        Scene.changed("audit by the first peer", 1, Scene::full, x -> x.audit(0, 11, 0));
        Due.promise(17, "`peer`: number of another peer");
        Scene.noSuchPeer("audit of", (x, peer) -> x.audit(0, peer, 0));
        Scene.changed("audit by the last peer", 1, Scene::full, x -> x.audit(11, 0, 0));
        Due.promise(17, "`seed`: 0 to 256");
        Scene.outside("audit with seed", 0, 256, Scene::full, (x, seed) -> x.audit(0, 1, seed));
        Scene.changed("audit with seed 0", 1, Scene::full, x -> x.audit(0, 1, 0));
        Scene.changed("audit with seed 256", 1, Scene::full, x -> x.audit(0, 1, 256));
    }

    private static void auditAnswers() {
        Due.promise(17, "Returns 1 if the audit is passed, else 0; INVALID_ARGUMENT, also if both peers are the same; "
            + "NOT_POSSIBLE if one of them is offline.");
        Scene.changed("passed", 1, () -> audited(1, 256), x -> x.audit(0, 1, 1));
        Scene.changed("not passed", 0, () -> audited(1, 256), x -> x.audit(0, 1, 0));
        for (int peer : new int[] {0, 7, 11}) {
            int p = peer;
            Scene.refused("audit of itself by " + p, Due.INVALID, Scene::full, x -> x.audit(p, p, 0));
        }
        Scene.refused("audit of itself, offline", Due.INVALID, Scene::village, x -> x.audit(3, 3, 0));
        Scene.refused("by one offline", Due.IMPOSSIBLE, Scene::village, x -> x.audit(3, 4, 0));
        Scene.refused("of one offline", Due.IMPOSSIBLE, Scene::village, x -> x.audit(4, 3, 256));
        PeerStorage x = audited(1);
        x.setOnline(0, 0);
        x.setOnline(1, 0);
        Due.is("both offline", Due.IMPOSSIBLE, x.audit(0, 1, 0));
        x.setOnline(0, 1);
        Due.is("the audited one offline", Due.IMPOSSIBLE, x.audit(0, 1, 0));
        x.setOnline(1, 1);
        Due.is("both online again", 0, x.audit(0, 1, 0));
    }

    private static void passingSeedsAnswers() {
        Due.promise(18, "Returns the number of seeds, 0 to 257; INVALID_ARGUMENT, also if both peers are the same.");
        Scene.asked("none spoiled", 257, () -> audited(), x -> x.passingSeeds(0, 1));
        Scene.asked("nothing to audit", 257, Scene::full, x -> x.passingSeeds(11, 0));
        Scene.asked("the first one spoiled", 0, () -> audited(1), x -> x.passingSeeds(0, 1));
        Scene.asked("the last one spoiled", 1, () -> audited(0, 0, 0, 0, 0, 0, 0, 1), x -> x.passingSeeds(0, 1));
        Scene.asked("seven seeds", 7, () -> audited(zeroFor(0, 1, 2, 3, 254, 255, 256)), x -> x.passingSeeds(0, 1));
        Scene.asked("correct again", 257, () -> twiceSpoiled(), x -> x.passingSeeds(0, 1));
        for (int peer : new int[] {0, 7, 11}) {
            int p = peer;
            Scene.refused("by itself, " + p, Due.INVALID, Scene::full, x -> x.passingSeeds(p, p));
        }
        Due.promise(18, "`auditor`: number of a peer");
        Scene.noSuchPeer("passingSeeds by", (x, auditor) -> x.passingSeeds(auditor, 0));
        Due.promise(18, "`peer`: number of another peer");
        Scene.noSuchPeer("passingSeeds of", (x, peer) -> x.passingSeeds(0, peer));
        Due.promise(18, "Counts the seeds with which an audit would be passed. (This changes nothing.)");
        PeerStorage x = audited(1, 256);
        for (int time = 0; time < 3; time++) {
            Due.is("one seed", 1, x.passingSeeds(0, 1));
            Due.is("trust stays", 50, x.peerInfo(1, 3));
        }
        // It is no audit, so that neither of them need be online.
        x.setOnline(1, 0);
        Due.is("one seed, the peer being offline", 1, x.passingSeeds(0, 1));
        x.setOnline(0, 0);
        Due.is("one seed, both being offline", 1, x.passingSeeds(0, 1));
        Due.is("nothing to audit, both being offline", 257, x.passingSeeds(1, 0));
    }

    private static PeerStorage twiceSpoiled() {
        PeerStorage x = audited(1, 256);
        x.spoil(0, 0, 256);
        x.spoil(1, 0, 1);
        return x;
    }

    /** File 0 of peer 10 with 6 + 4 fragments on peers 0 to 9, so many of them spoiled. */
    private static PeerStorage spoiledOfTen(int number) {
        PeerStorage x = Scene.alike(11, 1);
        Scene.file(x, 10, 4, 1, 2, 3, 4, 5, 6);
        for (int fragment = 0; fragment < number; fragment++) {
            x.spoil(0, fragment, 256);
        }
        return x;
    }

    private static void repairWhenSafe() {
        Due.terms("A repair of a file is possible if it is safe.");
        for (int spoiled = 0; spoiled <= 4; spoiled++) {
            Due.is("repair of " + spoiled, spoiled, spoiledOfTen(spoiled).repair(0));
        }
        for (int spoiled = 5; spoiled <= 10; spoiled++) {
            Due.is("repair of " + spoiled, Due.IMPOSSIBLE, spoiledOfTen(spoiled).repair(0));
        }
        PeerStorage x = Scene.alike(1, 1);
        Scene.file(x, 0, 0, 1);
        Due.is("repair of a file without parity", 0, x.repair(0));
        x.setOnline(0, 0);
        Due.is("repair of it, offline", Due.IMPOSSIBLE, x.repair(0));
    }

    private static void repairOneByOne() {
        Due.terms("All its fragments that are lost, spoiled, or on peers that are offline are repaired, "
            + "by ascending numbers: such a fragment is removed from its peer, if it is stored, and then placed anew, "
            + "with the correct value, if it can be placed; otherwise it is lost.");
        // Fragments 0, 1 and 2 on peers 0, 1 and 2, of which 2 has the greatest trust and no unit left.
        PeerStorage x = Scene.peers(3, 2, 1);
        Scene.file(x, 0, 2, 9);
        x.audit(0, 2, 0);
        x.spoil(0, 1, 1);
        x.spoil(0, 2, 1);
        Due.is("repair", 2, x.repair(0));
        Due.is("fragment 1, while 2 is still on its peer", 1, x.fragment(0, 1, 0));
        Due.is("fragment 2, on its peer, where it has just been", 2, x.fragment(0, 2, 0));
        Due.is("both are correct", 0, x.count(4));
        // There is one unit for two that are lost: the lower number gets it.
        PeerStorage y = Scene.alike(4, 1);
        Scene.file(y, 3, 2, 9);
        y.crash(1);
        y.crash(2);
        y.join(1);
        y.setOnline(3, 0);
        Due.is("repair with one unit for two", 1, y.repair(0));
        Due.is("the lower number", 1, y.fragment(0, 1, 0));
        Due.is("the higher number", Due.MISSING, y.fragment(0, 2, 0));
    }

    private static void repairEachKind() {
        // Fragment 0 spoiled, 1 lost, 2 offline, 3 good, on peers 0 to 3, and two places more.
        PeerStorage x = Scene.alike(5, 1);
        Scene.file(x, 4, 3, 50);
        x.spoil(0, 0, 7);
        x.crash(1);
        x.setOnline(2, 0);
        x.join(1);
        Due.is("repair of each kind", 3, x.repair(0));
        int[] due = {0, 1, 4, 3};
        for (int i = 0; i < 4; i++) {
            Due.is("fragment " + i, due[i], x.fragment(0, i, 0));
            Due.is("fragment " + i + ", value", 50, x.fragment(0, i, 1));
        }
        Due.is("the peer that is offline has its unit back", 1, x.peerInfo(2, 1));
        // A spoiled one leaves its peer for one with more trust.
        PeerStorage y = Scene.peers(1, 2, 1);
        Scene.file(y, 0, 1, 50);
        Due.is("on peers 1 and 0", 10, 10 * y.fragment(0, 0, 0) + y.fragment(0, 1, 0));
        y.spoil(0, 0, 7);
        y.audit(0, 1, 0);
        Due.is("repair", 1, y.repair(0));
        Due.is("it is on another peer", 2, y.fragment(0, 0, 0));
        Due.is("its unit is free", 2, y.peerInfo(1, 1));
        // What was offline and found no place is lost, also when its peer comes back.
        PeerStorage z = Scene.alike(2, 1);
        Scene.file(z, 0, 1, 50);
        z.setOnline(1, 0);
        Due.is("repair without a place", 0, z.repair(0));
        z.setOnline(1, 1);
        Due.is("lost, though its peer is back", Due.MISSING, z.fragment(0, 1, 0));
        Due.is("its unit is free", 1, z.peerInfo(1, 1));
        Due.is("repair then", 1, z.repair(0));
    }

    private static void repairReads() {
        Due.terms("The fragments that are read for it are the k with the lowest numbers that are stored, correct "
            + "and on online peers at the beginning of the repair of this fragment.");
        PeerStorage x = Scene.alike(6, 1);
        Scene.file(x, 5, 2, 7, 8);
        x.crash(0);
        x.crash(1);
        x.join(1);
        x.join(1);
        Due.is("repair", 2, x.repair(0));
        // For fragment 0, those on 2 and 3 are read; for fragment 1, the new one on 0 and that on 2.
        int[] due = {1 + 1, 1, 1 + 2, 1 + 1, 0};
        for (int peer = 0; peer < 5; peer++) {
            Due.is("owed to peer " + peer, due[peer], x.balance(5, peer));
        }
        // Spoiled ones and those offline are passed over: 2, 4, 5, 6, 7 and 8 are read for 0.
        PeerStorage y = Scene.alike(11, 1);
        Scene.file(y, 10, 4, 1, 2, 3, 4, 5, 6);
        y.crash(0);
        y.spoil(0, 1, 1);
        y.setOnline(3, 0);
        y.join(1);
        y.repair(0);
        // For 1, 0 and the next five of them; for 3, which goes to the owner, 0, 1, 2, 4, 5 and 6.
        int[] owed = {1 + 2, 1 + 1 + 1, 1 + 3, 1, 1 + 3, 1 + 3, 1 + 3, 1 + 2, 1 + 1, 1};
        for (int peer = 0; peer < 10; peer++) {
            Due.is("owed to peer " + peer + " of ten", owed[peer], y.balance(10, peer));
        }
    }

    private static void repairAnswers() {
        Due.promise(19, "Returns the number of fragments that were placed anew; INVALID_ARGUMENT; "
            + "NOT_POSSIBLE if it is not safe.");
        Scene.changed("none", 0, Scene::full, x -> x.repair(7));
        Scene.changed("one", 1, () -> spoiledOfTen(1), x -> x.repair(0));
        Scene.changed("as many as a file bears", 4, () -> spoiledOfTen(4), x -> x.repair(0));
        Scene.refused("one more", Due.IMPOSSIBLE, () -> spoiledOfTen(5), x -> x.repair(0));
        Scene.refused("all", Due.IMPOSSIBLE, () -> spoiledOfTen(10), x -> x.repair(0));
        Scene.changed("two lost, one place", 1, AuditsEdgesTest::endsLost, x -> x.repair(0));
        Due.promise(19, "`file`: number of the file");
        Scene.noSuchFile("repair", PeerStorage::repair);
    }

    /** Files 0 to 4 with reserves 0 to 4, 5 and 6 with -1, 7 with 0, all of 1 + 4 fragments. */
    private static PeerStorage reserves() {
        PeerStorage x = Scene.alike(12, 40);
        int[] spoiled = {4, 3, 2, 1, 0, 5, 5, 4};
        for (int file = 0; file < 8; file++) {
            Scene.file(x, 11, 4, 20 * file);
            for (int fragment = 0; fragment < spoiled[file]; fragment++) {
                x.spoil(file, fragment, 1);
            }
        }
        return x;
    }

    private static void repairAllRange() {
        Due.promise(20, "`reserve`: 0 to 5");
        Scene.outside("repairAll", 0, 5, Scene::village, PeerStorage::repairAll);
        Scene.outside("repairAll of nothing", 0, 5, PeerStorage::new, PeerStorage::repairAll);
        Scene.changed("repairAll(0) of nothing", 0, PeerStorage::new, x -> x.repairAll(0));
        Scene.changed("repairAll(5) of nothing", 0, PeerStorage::new, x -> x.repairAll(5));
        int[] due = {0, 4 + 4, 4 + 4 + 3, 4 + 4 + 3 + 2, 4 + 4 + 3 + 2 + 1, 4 + 4 + 3 + 2 + 1};
        for (int reserve = 0; reserve <= 5; reserve++) {
            PeerStorage x = reserves();
            Due.is("repairAll(" + reserve + ")", due[reserve], x.repairAll(reserve));
            for (int file = 0; file < 5; file++) {
                int then = file < reserve ? 4 : file;
                Due.is("repairAll(" + reserve + "), reserve of " + file, then, x.fileInfo(file, 6));
            }
            Due.is("repairAll(" + reserve + "), one that is not safe", -1, x.fileInfo(5, 6));
            Due.is("repairAll(" + reserve + "), the last file", reserve > 0 ? 4 : 0, x.fileInfo(7, 6));
        }
    }

    private static void repairAllInTurn() {
        Due.promise(20, "Repairs all files that are safe and whose reserve is less than a number, by ascending numbers; "
            + "for each file it is decided when its turn comes.");
        // File 0 has a spoiled fragment on peer 1, whose trust is low; file 1 has lost one for want of a unit.
        PeerStorage x = Scene.peers(2, 1, 1);
        x.setOnline(2, 0);
        Scene.file(x, 0, 1, 5);
        Scene.file(x, 0, 1, 6);
        Due.is("the lost one", Due.MISSING, x.fragment(1, 1, 0));
        x.spoil(0, 1, 1);
        x.audit(0, 1, 0);
        x.setOnline(2, 1);
        Due.is("repairAll(1)", 2, x.repairAll(1));
        Due.is("file 0 takes the peer with more trust", 2, x.fragment(0, 1, 0));
        Due.is("file 1 takes the unit that file 0 has left", 1, x.fragment(1, 1, 0));
        PeerStorage y = Scene.alike(3, 2);
        Scene.file(y, 0, 1, 5);
        Scene.file(y, 0, 1, 6);
        y.crash(1);
        y.setOnline(0, 0);
        Due.is("file 0 is not safe", 0, y.fileInfo(0, 5));
        Due.is("file 1 is safe", 1, y.fileInfo(1, 5));
        y.join(1);
        Due.is("repairAll(1) passes over file 0", 1, y.repairAll(1));
        Due.is("and places the one of file 1", 1, y.fragment(1, 1, 0));
    }

    private static void repairAllAnswers() {
        Due.promise(20, "Returns the number of fragments that were placed anew; INVALID_ARGUMENT.");
        Scene.changed("none less than 0", 0, AuditsEdgesTest::reserves, x -> x.repairAll(0));
        Scene.changed("those less than 1", 8, AuditsEdgesTest::reserves, x -> x.repairAll(1));
        Scene.changed("those less than 5", 14, AuditsEdgesTest::reserves, x -> x.repairAll(5));
        Scene.changed("nothing to repair", 0, Scene::full, x -> x.repairAll(5));
        // Two files have lost a fragment each, and there is a place for one.
        PeerStorage x = Scene.alike(2, 2);
        Scene.file(x, 0, 1, 5);
        Scene.file(x, 0, 1, 6);
        x.crash(1);
        Due.is("no place", 0, x.repairAll(5));
        x.join(1);
        Due.is("one place for two", 1, x.repairAll(5));
        Due.is("the lower file has it", 1, x.fragment(0, 1, 0));
        Due.is("the higher file has not", Due.MISSING, x.fragment(1, 1, 0));
    }
}
