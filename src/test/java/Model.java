import java.util.ArrayDeque;
import java.util.ArrayList;
import java.util.Deque;
import java.util.List;
import java.util.Map;
import java.util.TreeMap;

/**
 * The document once more, as literally as can be and without regard to cost: what would happen
 * is found by doing it on a copy, and a decoded word by Cramer's rule. ModelTest compares it
 * with the program.
 */
final class Model {
    private static final class Peer {
        int space;
        boolean online = true;
        int trust = 50;
        final Map<Integer, Integer> owes = new TreeMap<>();
    }

    private static final class Stored {
        int peer;
        int value;
    }

    private static final class Owned {
        int owner;
        int k;
        final List<Integer> correct = new ArrayList<>();
        final List<Stored> fragments = new ArrayList<>();
    }

    private TreeMap<Integer, Peer> peers = new TreeMap<>();
    private TreeMap<Integer, Owned> files = new TreeMap<>();
    private List<Integer> words = new ArrayList<>();
    private final Deque<Model> history = new ArrayDeque<>();

    /** What is there, without the history. */
    Model copy() {
        Model copy = new Model();
        copy.restore(this);
        return copy;
    }

    private void restore(Model from) {
        peers = new TreeMap<>();
        from.peers.forEach((number, peer) -> {
            Peer twin = new Peer();
            twin.space = peer.space;
            twin.online = peer.online;
            twin.trust = peer.trust;
            twin.owes.putAll(peer.owes);
            peers.put(number, twin);
        });
        files = new TreeMap<>();
        from.files.forEach((number, file) -> {
            Owned twin = new Owned();
            twin.owner = file.owner;
            twin.k = file.k;
            twin.correct.addAll(file.correct);
            for (Stored stored : file.fragments) {
                twin.fragments.add(stored == null ? null : stored(stored.peer, stored.value));
            }
            files.put(number, twin);
        });
        words = new ArrayList<>(from.words);
    }

    private static Stored stored(int peer, int value) {
        Stored stored = new Stored();
        stored.peer = peer;
        stored.value = value;
        return stored;
    }

    private void change() {
        history.addLast(copy());
        if (history.size() > 5) {
            history.removeFirst();
        }
    }

    private static boolean outside(int value, int low, int high) {
        return value < low || value > high;
    }

    private int freeSpace(int peer) {
        int free = peers.get(peer).space;
        for (Owned file : files.values()) {
            for (Stored stored : file.fragments) {
                if (stored != null && stored.peer == peer) {
                    free--;
                }
            }
        }
        return free;
    }

    private boolean good(Owned file, int i) {
        Stored stored = file.fragments.get(i);
        return stored != null && stored.value == file.correct.get(i) && peers.get(stored.peer).online;
    }

    private int reserve(Owned file) {
        int good = 0;
        for (int i = 0; i < file.fragments.size(); i++) {
            if (good(file, i)) {
                good++;
            }
        }
        return good - file.k;
    }

    private boolean safe(Owned file) {
        return reserve(file) >= 0;
    }

    private int owes(int peer, int other) {
        return peers.get(peer).owes.getOrDefault(other, 0);
    }

    private void addDebt(int peer, int other, int amount) {
        if (peer != other) {
            peers.get(peer).owes.merge(other, amount, Integer::sum);
            peers.get(other).owes.merge(peer, -amount, Integer::sum);
        }
    }

    private boolean place(Owned file, int i, int value) {
        List<Integer> candidates = new ArrayList<>();
        for (int peer : peers.keySet()) {
            boolean has = file.fragments.stream().anyMatch(s -> s != null && s.peer == peer);
            if (peers.get(peer).online && freeSpace(peer) > 0 && !has) {
                candidates.add(peer);
            }
        }
        candidates.sort((a, b) -> {
            int byTrust = peers.get(b).trust - peers.get(a).trust;
            int bySpace = freeSpace(b) - freeSpace(a);
            return byTrust != 0 ? byTrust : bySpace != 0 ? bySpace : a - b;
        });
        if (candidates.isEmpty()) {
            file.fragments.set(i, null);
            return false;
        }
        int peer = candidates.get(0);
        file.fragments.set(i, stored(peer, value));
        addDebt(file.owner, peer, 1);
        return true;
    }

    private void removePeer(int peer) {
        peers.remove(peer);
        peers.values().forEach(p -> p.owes.remove(peer));
    }

    private static int lowest(Map<Integer, ?> taken) {
        int number = 0;
        while (taken.containsKey(number)) {
            number++;
        }
        return number;
    }

    int join(int space) {
        if (outside(space, 1, 40)) {
            return Due.INVALID;
        }
        if (peers.size() == 12) {
            return Due.LIMIT;
        }
        change();
        int number = lowest(peers);
        Peer peer = new Peer();
        peer.space = space;
        peers.put(number, peer);
        return number;
    }

    int leave(int peer) {
        if (!peers.containsKey(peer)) {
            return Due.INVALID;
        }
        if (!peers.get(peer).online || files.values().stream().anyMatch(f -> f.owner == peer)) {
            return Due.IMPOSSIBLE;
        }
        change();
        int lost = 0;
        for (Owned file : files.values()) {
            for (int i = 0; i < file.fragments.size(); i++) {
                Stored stored = file.fragments.get(i);
                if (stored != null && stored.peer == peer && !place(file, i, stored.value)) {
                    lost++;
                }
            }
        }
        removePeer(peer);
        return lost;
    }

    int crash(int peer) {
        if (!peers.containsKey(peer)) {
            return Due.INVALID;
        }
        change();
        files.values().removeIf(f -> f.owner == peer);
        int lost = 0;
        for (Owned file : files.values()) {
            for (int i = 0; i < file.fragments.size(); i++) {
                Stored stored = file.fragments.get(i);
                if (stored != null && stored.peer == peer) {
                    file.fragments.set(i, null);
                    lost++;
                }
            }
        }
        removePeer(peer);
        return lost;
    }

    int setOnline(int peer, int online) {
        if (!peers.containsKey(peer) || outside(online, 0, 1)) {
            return Due.INVALID;
        }
        change();
        int previous = peers.get(peer).online ? 1 : 0;
        peers.get(peer).online = online == 1;
        return previous;
    }

    private boolean noPair(int peer, int other) {
        return peer == other || !peers.containsKey(peer) || !peers.containsKey(other);
    }

    int pay(int peer, int other, int amount) {
        if (noPair(peer, other) || outside(amount, 1, 1000)) {
            return Due.INVALID;
        }
        if (owes(peer, other) < amount) {
            return Due.IMPOSSIBLE;
        }
        change();
        addDebt(peer, other, -amount);
        return owes(peer, other);
    }

    int peerInfo(int peer, int what) {
        if (!peers.containsKey(peer) || outside(what, 0, 5)) {
            return Due.INVALID;
        }
        Peer p = peers.get(peer);
        return switch (what) {
            case 0 -> p.space;
            case 1 -> freeSpace(peer);
            case 2 -> p.online ? 1 : 0;
            case 3 -> p.trust;
            case 4 -> (int) files.values().stream().filter(f -> f.owner == peer).count();
            default -> p.owes.values().stream().mapToInt(v -> v).sum();
        };
    }

    int balance(int peer, int other) {
        return noPair(peer, other) ? Due.INVALID : owes(peer, other);
    }

    int word(int word) {
        if (outside(word, 0, 255)) {
            return Due.INVALID;
        }
        if (words.size() == 6) {
            return Due.LIMIT;
        }
        words.add(word);
        return words.size();
    }

    private static int factor(int k, int fragment, int word) {
        if (fragment < k) {
            return fragment == word ? 1 : 0;
        }
        int factor = 1;
        for (int j = k; j < fragment; j++) {
            factor = factor * (word + 1) % 257;
        }
        return factor;
    }

    int store(int owner, int parity) {
        if (!peers.containsKey(owner) || outside(parity, 0, 4)) {
            return Due.INVALID;
        }
        if (words.isEmpty() || !peers.get(owner).online) {
            return Due.IMPOSSIBLE;
        }
        if (files.size() == 8) {
            return Due.LIMIT;
        }
        change();
        Owned file = new Owned();
        file.owner = owner;
        file.k = words.size();
        for (int i = 0; i < file.k + parity; i++) {
            int sum = 0;
            for (int w = 0; w < file.k; w++) {
                sum += words.get(w) * factor(file.k, i, w);
            }
            file.correct.add(sum % 257);
            file.fragments.add(null);
        }
        int number = lowest(files);
        files.put(number, file);
        for (int i = 0; i < file.k + parity; i++) {
            place(file, i, file.correct.get(i));
        }
        words.clear();
        return number;
    }

    int delete(int file) {
        if (!files.containsKey(file)) {
            return Due.INVALID;
        }
        change();
        files.remove(file);
        return files.size();
    }

    int fileInfo(int file, int what) {
        if (!files.containsKey(file) || outside(what, 0, 6)) {
            return Due.INVALID;
        }
        Owned f = files.get(file);
        return switch (what) {
            case 0 -> f.owner;
            case 1 -> f.k;
            case 2 -> f.fragments.size() - f.k;
            case 3 -> (int) f.fragments.stream().filter(s -> s != null).count();
            case 4 -> reserve(f) + f.k;
            case 5 -> safe(f) ? 1 : 0;
            default -> reserve(f);
        };
    }

    private boolean noFragment(int file, int fragment) {
        return !files.containsKey(file) || outside(fragment, 0, files.get(file).fragments.size() - 1);
    }

    private boolean noWord(int file, int index) {
        return !files.containsKey(file) || outside(index, 0, files.get(file).k - 1);
    }

    int fragment(int file, int fragment, int what) {
        if (noFragment(file, fragment) || outside(what, 0, 1)) {
            return Due.INVALID;
        }
        Stored stored = files.get(file).fragments.get(fragment);
        return stored == null ? Due.MISSING : what == 0 ? stored.peer : stored.value;
    }

    int read(int file, int index) {
        if (noWord(file, index)) {
            return Due.INVALID;
        }
        Owned f = files.get(file);
        if (good(f, index)) {
            return f.fragments.get(index).value;
        }
        if (!safe(f)) {
            return Due.IMPOSSIBLE;
        }
        int set = 0;
        for (int i = 0; i < f.fragments.size() && Integer.bitCount(set) < f.k; i++) {
            if (good(f, i)) {
                set |= 1 << i;
            }
        }
        return decode(file, set, index);
    }

    int decode(int file, int set, int index) {
        if (noWord(file, index)) {
            return Due.INVALID;
        }
        Owned f = files.get(file);
        if (outside(set, 0, (1 << f.fragments.size()) - 1) || Integer.bitCount(set) != f.k) {
            return Due.INVALID;
        }
        int[][] factors = new int[f.k][f.k];
        int[][] replaced = new int[f.k][f.k];
        int row = 0;
        for (int i = 0; i < f.fragments.size(); i++) {
            if ((set & 1 << i) != 0) {
                if (f.fragments.get(i) == null) {
                    return Due.MISSING;
                }
                for (int w = 0; w < f.k; w++) {
                    factors[row][w] = factor(f.k, i, w);
                    replaced[row][w] = w == index ? f.fragments.get(i).value : factors[row][w];
                }
                row++;
            }
        }
        int below = determinant(factors, 0, 0);
        int above = determinant(replaced, 0, 0);
        for (int word = 0; word <= 256; word++) {
            if (word * below % 257 == above) {
                return word;
            }
        }
        throw new IllegalStateException("a set of k fragments does not determine the file");
    }

    /** Of the rows from row on and the columns that are not in used. */
    private static int determinant(int[][] rows, int row, int used) {
        if (row == rows.length) {
            return 1;
        }
        int sum = 0;
        int sign = 1;
        for (int column = 0; column < rows.length; column++) {
            if ((used & 1 << column) == 0) {
                if (rows[row][column] != 0) {
                    sum += sign * rows[row][column] * determinant(rows, row + 1, used | 1 << column) % 257;
                }
                sign = -sign;
            }
        }
        return Math.floorMod(sum, 257);
    }

    int spoil(int file, int fragment, int amount) {
        if (noFragment(file, fragment) || outside(amount, 1, 256)) {
            return Due.INVALID;
        }
        Owned f = files.get(file);
        if (f.fragments.get(fragment) == null) {
            return Due.IMPOSSIBLE;
        }
        change();
        Stored stored = files.get(file).fragments.get(fragment);
        stored.value = (stored.value + amount) % 257;
        return stored.value == f.correct.get(fragment) ? 0 : 1;
    }

    /** The numbers of fragments that an audit looks at, then 1 if it is passed, else 0. */
    private int[] look(int auditor, int peer, int seed) {
        int answer = 0;
        int expected = 0;
        int power = 1;
        int seen = 0;
        for (Owned file : files.values()) {
            for (int i = 0; i < file.fragments.size(); i++) {
                Stored stored = file.fragments.get(i);
                if (file.owner == auditor && stored != null && stored.peer == peer) {
                    answer = (answer + stored.value * power) % 257;
                    expected = (expected + file.correct.get(i) * power) % 257;
                    power = power * seed % 257;
                    seen++;
                }
            }
        }
        return new int[] {seen, answer == expected ? 1 : 0};
    }

    int audit(int auditor, int peer, int seed) {
        if (noPair(auditor, peer) || outside(seed, 0, 256)) {
            return Due.INVALID;
        }
        if (!peers.get(auditor).online || !peers.get(peer).online) {
            return Due.IMPOSSIBLE;
        }
        change();
        int[] look = look(auditor, peer, seed);
        Peer audited = peers.get(peer);
        if (look[1] == 0) {
            audited.trust /= 2;
        } else if (look[0] > 0) {
            audited.trust = Math.min(100, audited.trust + 5);
        }
        return look[1];
    }

    int passingSeeds(int auditor, int peer) {
        if (noPair(auditor, peer)) {
            return Due.INVALID;
        }
        int passing = 0;
        for (int seed = 0; seed <= 256; seed++) {
            passing += look(auditor, peer, seed)[1];
        }
        return passing;
    }

    private int renew(Owned file) {
        int renewed = 0;
        for (int i = 0; i < file.fragments.size(); i++) {
            if (good(file, i)) {
                continue;
            }
            List<Integer> readers = new ArrayList<>();
            for (int other = 0; other < file.fragments.size() && readers.size() < file.k; other++) {
                if (good(file, other)) {
                    readers.add(file.fragments.get(other).peer);
                }
            }
            file.fragments.set(i, null);
            if (place(file, i, file.correct.get(i))) {
                renewed++;
                readers.forEach(reader -> addDebt(file.owner, reader, 1));
            }
        }
        return renewed;
    }

    int repair(int file) {
        if (!files.containsKey(file)) {
            return Due.INVALID;
        }
        if (!safe(files.get(file))) {
            return Due.IMPOSSIBLE;
        }
        change();
        return renew(files.get(file));
    }

    int repairAll(int reserve) {
        if (outside(reserve, 0, 5)) {
            return Due.INVALID;
        }
        change();
        int renewed = 0;
        for (Owned file : files.values()) {
            if (safe(file) && reserve(file) < reserve) {
                renewed += renew(file);
            }
        }
        return renewed;
    }

    int undo() {
        if (history.isEmpty()) {
            return Due.IMPOSSIBLE;
        }
        restore(history.removeLast());
        return history.size();
    }

    private List<Integer> safeFiles() {
        List<Integer> safe = new ArrayList<>();
        files.forEach((number, file) -> {
            if (safe(file)) {
                safe.add(number);
            }
        });
        return safe;
    }

    /** Whether a file that is safe here exists in the other model, but is not safe there. */
    private int lostSafety(Model then) {
        int lost = 0;
        for (int file : safeFiles()) {
            if (then.files.containsKey(file) && !then.safe(then.files.get(file))) {
                lost++;
            }
        }
        return lost;
    }

    private boolean bears(int set) {
        Model then = copy();
        for (int peer = 0; peer < 12; peer++) {
            if ((set & 1 << peer) != 0) {
                then.crash(peer);
            }
        }
        return lostSafety(then) == 0;
    }

    int tolerance() {
        if (peers.isEmpty()) {
            return Due.IMPOSSIBLE;
        }
        int all = 0;
        for (int peer : peers.keySet()) {
            all |= 1 << peer;
        }
        boolean[] borne = {true, true, true, true, true};
        for (int set = 0; set < 1 << 12; set++) {
            int size = Integer.bitCount(set);
            if ((set & ~all) == 0 && size <= 4 && borne[size]) {
                borne[size] = bears(set);
            }
        }
        int most = Math.min(4, peers.size());
        while (!borne[most]) {
            most--;
        }
        return most;
    }

    int endangered(int peer) {
        if (!peers.containsKey(peer)) {
            return Due.INVALID;
        }
        Model then = copy();
        then.setOnline(peer, 0);
        return lostSafety(then);
    }

    int leavers() {
        Model plan = copy();
        int left = 0;
        for (int peer = 0; peer < 12; peer++) {
            Model trial = plan.copy();
            if (trial.leave(peer) == 0) {
                plan = trial;
                left++;
                peer = -1;
            }
        }
        return left;
    }

    int count(int what) {
        if (outside(what, 0, 8)) {
            return Due.INVALID;
        }
        int sum = 0;
        for (Owned file : files.values()) {
            for (int i = 0; i < file.fragments.size(); i++) {
                Stored stored = file.fragments.get(i);
                boolean spoiled = stored != null && stored.value != file.correct.get(i);
                sum += what == 3 && stored != null || what == 4 && spoiled ? 1 : 0;
            }
        }
        for (int peer : peers.keySet()) {
            sum += what == 5 && peers.get(peer).online ? freeSpace(peer) : 0;
            for (int owed : peers.get(peer).owes.values()) {
                sum += what == 8 && owed > 0 ? owed : 0;
            }
        }
        return switch (what) {
            case 0 -> peers.size();
            case 1 -> files.size();
            case 2 -> safeFiles().size();
            case 6 -> words.size();
            case 7 -> history.size();
            default -> sum;
        };
    }
}
