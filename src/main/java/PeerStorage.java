import java.util.Arrays;

/**
 * Storage among peers: files divided into data and parity fragments that are placed on peers,
 * with audits, repairs, debts between peers, a short history, and questions about losses.
 */
public final class PeerStorage {
    public static final int INVALID_ARGUMENT = -10001;
    public static final int NOT_POSSIBLE = -10002;
    public static final int LIMIT_REACHED = -10003;
    public static final int NOT_FOUND = -10004;

    private static final int MOST_PEERS = 12;
    private static final int MOST_SPACE = 40;
    private static final int FIRST_TRUST = 50;
    private static final int MOST_TRUST = 100;
    private static final int TRUST_STEP = 5;
    private static final int MOST_PAYMENT = 1000;
    private static final int MOST_FILES = 8;
    private static final int MOST_DATA = 6;
    private static final int MOST_PARITY = 4;
    private static final int MOST_FRAGMENTS = MOST_DATA + MOST_PARITY;
    private static final int MOST_WORD = 255;
    private static final int FIELD = 257;
    private static final int MOST_RESERVE = 5;
    private static final int MOST_STATES = 5;
    private static final int MOST_CRASHES = 4;
    private static final int NONE = -1;

    private final State now;
    private final History history;
    private final Challenge challenge;
    private final Decoder decoder;
    // Kept for leavers alone, so that no call makes an object.
    private final State plan;
    private final State trial;

    public PeerStorage() {
        now = new State();
        history = new History();
        challenge = new Challenge();
        decoder = new Decoder();
        plan = new State();
        trial = new State();
    }

    // ---- peers

    public int join(int space) {
        if (space < 1 || space > MOST_SPACE) {
            return INVALID_ARGUMENT;
        }
        int peer = now.peers.lowestUnused();
        if (peer == NONE) {
            return LIMIT_REACHED;
        }
        history.record(now);
        now.peers.add(peer, space);
        return peer;
    }

    public int leave(int peer) {
        if (!now.peers.exists(peer)) {
            return INVALID_ARGUMENT;
        }
        if (!now.mayLeave(peer)) {
            return NOT_POSSIBLE;
        }
        history.record(now);
        return now.leaveInOrder(peer);
    }

    public int crash(int peer) {
        if (!now.peers.exists(peer)) {
            return INVALID_ARGUMENT;
        }
        history.record(now);
        return now.removeCrashed(peer);
    }

    public int setOnline(int peer, int online) {
        if (!now.peers.exists(peer) || online < 0 || online > 1) {
            return INVALID_ARGUMENT;
        }
        history.record(now);
        int previous = now.peers.online[peer];
        now.peers.online[peer] = online;
        return previous;
    }

    public int pay(int peer, int other, int amount) {
        if (!now.peers.areTwo(peer, other) || amount < 1 || amount > MOST_PAYMENT) {
            return INVALID_ARGUMENT;
        }
        if (now.peers.owedBy(peer, other) < amount) {
            return NOT_POSSIBLE;
        }
        history.record(now);
        now.peers.owe(peer, other, -amount);
        return now.peers.owedBy(peer, other);
    }

    public int peerInfo(int peer, int what) {
        if (!now.peers.exists(peer)) {
            return INVALID_ARGUMENT;
        }
        switch (what) {
            case 0: return now.peers.space[peer];
            case 1: return now.peers.freeSpace(peer);
            case 2: return now.peers.online[peer];
            case 3: return now.peers.trust[peer];
            case 4: return now.files.ownedBy(peer);
            case 5: return now.peers.sumOwedBy(peer);
            default: return INVALID_ARGUMENT;
        }
    }

    public int balance(int peer, int other) {
        if (!now.peers.areTwo(peer, other)) {
            return INVALID_ARGUMENT;
        }
        return now.peers.owedBy(peer, other);
    }

    // ---- files

    public int word(int word) {
        if (word < 0 || word > MOST_WORD) {
            return INVALID_ARGUMENT;
        }
        if (now.waitingNumber >= MOST_DATA) {
            return LIMIT_REACHED;
        }
        return now.addWaiting(word);
    }

    public int store(int owner, int parity) {
        if (!now.peers.exists(owner) || parity < 0 || parity > MOST_PARITY) {
            return INVALID_ARGUMENT;
        }
        if (now.waitingNumber == 0 || !now.peers.isOnline(owner)) {
            return NOT_POSSIBLE;
        }
        int file = now.files.lowestUnused();
        if (file == NONE) {
            return LIMIT_REACHED;
        }
        history.record(now);
        now.makeFile(file, owner, parity);
        return file;
    }

    public int delete(int file) {
        if (!now.files.exists(file)) {
            return INVALID_ARGUMENT;
        }
        history.record(now);
        now.removeFile(file);
        return now.files.number();
    }

    public int fileInfo(int file, int what) {
        if (!now.files.exists(file)) {
            return INVALID_ARGUMENT;
        }
        switch (what) {
            case 0: return now.files.owner[file];
            case 1: return now.files.dataOf(file);
            case 2: return now.files.parityNumber[file];
            case 3: return now.files.storedNumber(file);
            case 4: return now.goodNumber(file);
            case 5: return now.isSafe(file) ? 1 : 0;
            case 6: return now.reserveOf(file);
            default: return INVALID_ARGUMENT;
        }
    }

    public int fragment(int file, int fragment, int what) {
        if (!now.files.hasFragment(file, fragment) || what < 0 || what > 1) {
            return INVALID_ARGUMENT;
        }
        int peer = now.files.placeOf(file, fragment);
        if (peer == NONE) {
            return NOT_FOUND;
        }
        return what == 0 ? peer : now.files.storedValue(file, fragment);
    }

    public int read(int file, int index) {
        if (!now.files.hasData(file, index)) {
            return INVALID_ARGUMENT;
        }
        if (!now.isSafe(file) && !now.isGood(file, index)) {
            return NOT_POSSIBLE;
        }
        // Any k good fragments determine the correct word, so there is nothing to solve.
        return now.files.correctValue(file, index);
    }

    public int decode(int file, int set, int index) {
        if (!now.files.hasData(file, index) || !now.files.isDecodingSet(file, set)) {
            return INVALID_ARGUMENT;
        }
        if (!now.files.isStoredSet(file, set)) {
            return NOT_FOUND;
        }
        return decoder.dataWord(now.files, file, set, index);
    }

    // ---- audits and repairs

    public int spoil(int file, int fragment, int amount) {
        if (!now.files.hasFragment(file, fragment) || amount < 1 || amount >= FIELD) {
            return INVALID_ARGUMENT;
        }
        if (now.files.placeOf(file, fragment) == NONE) {
            return NOT_POSSIBLE;
        }
        history.record(now);
        now.files.addError(file, fragment, amount);
        return now.files.errorOf(file, fragment) == 0 ? 0 : 1;
    }

    public int audit(int auditor, int peer, int seed) {
        if (!now.peers.areTwo(auditor, peer) || seed < 0 || seed >= FIELD) {
            return INVALID_ARGUMENT;
        }
        if (!now.peers.isOnline(auditor) || !now.peers.isOnline(peer)) {
            return NOT_POSSIBLE;
        }
        history.record(now);
        challenge.lookAt(now.files, auditor, peer);
        boolean passed = challenge.isPassedWith(seed);
        if (!passed) {
            now.peers.halveTrust(peer);
        } else if (challenge.number > 0) {
            now.peers.raiseTrust(peer);
        }
        return passed ? 1 : 0;
    }

    public int passingSeeds(int auditor, int peer) {
        if (!now.peers.areTwo(auditor, peer)) {
            return INVALID_ARGUMENT;
        }
        challenge.lookAt(now.files, auditor, peer);
        int passing = 0;
        for (int seed = 0; seed < FIELD; seed++) {
            if (challenge.isPassedWith(seed)) {
                passing++;
            }
        }
        return passing;
    }

    public int repair(int file) {
        if (!now.files.exists(file)) {
            return INVALID_ARGUMENT;
        }
        if (!now.isSafe(file)) {
            return NOT_POSSIBLE;
        }
        history.record(now);
        return now.renewFile(file);
    }

    public int repairAll(int reserve) {
        if (reserve < 0 || reserve > MOST_RESERVE) {
            return INVALID_ARGUMENT;
        }
        history.record(now);
        int renewed = 0;
        for (int file = 0; file < MOST_FILES; file++) {
            if (now.isSafe(file) && now.reserveOf(file) < reserve) {
                renewed += now.renewFile(file);
            }
        }
        return renewed;
    }

    public int undo() {
        if (history.number == 0) {
            return NOT_POSSIBLE;
        }
        history.restoreLatest(now);
        return history.number;
    }

    // ---- what would happen; nothing changes

    public int tolerance() {
        int peers = now.peers.number();
        if (peers == 0) {
            return NOT_POSSIBLE;
        }
        // From the greatest down: a smaller number may be worse, as it may spare an owner.
        for (int crashes = Math.min(MOST_CRASHES, peers); crashes > 0; crashes--) {
            if (now.bearsCrashes(crashes)) {
                return crashes;
            }
        }
        return 0;
    }

    public int endangered(int peer) {
        if (!now.peers.exists(peer)) {
            return INVALID_ARGUMENT;
        }
        int files = 0;
        for (int file = 0; file < MOST_FILES; file++) {
            if (now.needsPeer(file, peer)) {
                files++;
            }
        }
        return files;
    }

    public int leavers() {
        plan.copyFrom(now);
        int left = 0;
        while (left < MOST_PEERS && planNextLeaver()) {
            left++;
        }
        return left;
    }

    public int count(int what) {
        switch (what) {
            case 0: return now.peers.number();
            case 1: return now.files.number();
            case 2: return now.safeNumber();
            case 3: return now.files.allStored();
            case 4: return now.files.allSpoiled();
            case 5: return now.peers.onlineFreeSpace();
            case 6: return now.waitingNumber;
            case 7: return history.number;
            case 8: return now.peers.sumOfDebts();
            default: return INVALID_ARGUMENT;
        }
    }

    private boolean planNextLeaver() {
        for (int peer = 0; peer < MOST_PEERS; peer++) {
            if (plan.peers.exists(peer) && plan.mayLeave(peer)) {
                trial.copyFrom(plan);
                if (trial.leaveInOrder(peer) == 0) {
                    plan.copyFrom(trial);
                    return true;
                }
            }
        }
        return false;
    }

    // In the field; its greatest exponent, that of an inverse, has eight bits.
    private static int power(int base, int exponent) {
        int result = 1;
        int square = base;
        for (int bit = 0; bit < 8; bit++) {
            if ((exponent >> bit & 1) == 1) {
                result = result * square % FIELD;
            }
            square = square * square % FIELD;
        }
        return result;
    }

    private static void copyRow(int[] from, int[] to) {
        System.arraycopy(from, 0, to, 0, Math.min(from.length, to.length));
    }

    /** The peers by their numbers, and what they owe to one another. */
    private static final class Peers {
        // A number that no peer has stands with 0 in all rows.
        final int[] space = new int[MOST_PEERS];
        final int[] online = new int[MOST_PEERS];
        final int[] trust = new int[MOST_PEERS];
        final int[] load = new int[MOST_PEERS];
        final int[] owed = new int[MOST_PEERS * MOST_PEERS];

        void copyFrom(Peers other) {
            copyRow(other.space, space);
            copyRow(other.online, online);
            copyRow(other.trust, trust);
            copyRow(other.load, load);
            copyRow(other.owed, owed);
        }

        boolean exists(int peer) {
            return peer >= 0 && peer < MOST_PEERS && space[peer] > 0;
        }

        boolean areTwo(int peer, int other) {
            return peer != other && exists(peer) && exists(other);
        }

        boolean isOnline(int peer) {
            return peer >= 0 && peer < MOST_PEERS && online[peer] == 1;
        }

        int freeSpace(int peer) {
            return peer >= 0 && peer < MOST_PEERS ? space[peer] - load[peer] : 0;
        }

        int number() {
            int number = 0;
            for (int peer = 0; peer < MOST_PEERS; peer++) {
                if (exists(peer)) {
                    number++;
                }
            }
            return number;
        }

        int lowestUnused() {
            for (int peer = 0; peer < MOST_PEERS; peer++) {
                if (!exists(peer)) {
                    return peer;
                }
            }
            return NONE;
        }

        int onlineFreeSpace() {
            int sum = 0;
            for (int peer = 0; peer < MOST_PEERS; peer++) {
                if (isOnline(peer)) {
                    sum += freeSpace(peer);
                }
            }
            return sum;
        }

        void add(int peer, int units) {
            if (peer < 0 || peer >= MOST_PEERS) {
                return;
            }
            space[peer] = units;
            online[peer] = 1;
            trust[peer] = FIRST_TRUST;
        }

        void remove(int peer) {
            if (!exists(peer)) {
                return;
            }
            for (int other = 0; other < MOST_PEERS; other++) {
                owed[peer * MOST_PEERS + other] = 0;
                owed[other * MOST_PEERS + peer] = 0;
            }
            space[peer] = 0;
            online[peer] = 0;
            trust[peer] = 0;
            load[peer] = 0;
        }

        void addLoad(int peer, int fragments) {
            if (exists(peer)) {
                load[peer] += fragments;
            }
        }

        void raiseTrust(int peer) {
            if (exists(peer)) {
                trust[peer] = Math.min(trust[peer] + TRUST_STEP, MOST_TRUST);
            }
        }

        void halveTrust(int peer) {
            if (exists(peer)) {
                trust[peer] = trust[peer] / 2;
            }
        }

        boolean isBetterPlace(int peer, int than) {
            if (!exists(than)) {
                return true;
            }
            if (!exists(peer)) {
                return false;
            }
            if (trust[peer] != trust[than]) {
                return trust[peer] > trust[than];
            }
            return freeSpace(peer) > freeSpace(than);
        }

        void owe(int debtor, int creditor, int amount) {
            // A peer owes nothing to itself.
            if (debtor != creditor && exists(debtor) && exists(creditor)) {
                owed[debtor * MOST_PEERS + creditor] += amount;
                owed[creditor * MOST_PEERS + debtor] -= amount;
            }
        }

        int owedBy(int debtor, int creditor) {
            return areTwo(debtor, creditor) ? owed[debtor * MOST_PEERS + creditor] : 0;
        }

        int sumOwedBy(int debtor) {
            int sum = 0;
            for (int other = 0; other < MOST_PEERS; other++) {
                sum += owedBy(debtor, other);
            }
            return sum;
        }

        int sumOfDebts() {
            int sum = 0;
            for (int pair = 0; pair < MOST_PEERS * MOST_PEERS; pair++) {
                sum += Math.max(owed[pair], 0);
            }
            return sum;
        }
    }

    /** The files by their numbers; a row of ten fragments for each of them. */
    private static final class Files {
        // A number that no file has stands with no data, no parity, and every place NONE.
        final int[] dataNumber = new int[MOST_FILES];
        final int[] parityNumber = new int[MOST_FILES];
        final int[] owner = new int[MOST_FILES];
        final int[] correct = new int[MOST_FILES * MOST_FRAGMENTS];
        final int[] place = new int[MOST_FILES * MOST_FRAGMENTS];
        final int[] error = new int[MOST_FILES * MOST_FRAGMENTS];

        Files() {
            Arrays.fill(owner, NONE);
            Arrays.fill(place, NONE);
        }

        void copyFrom(Files other) {
            copyRow(other.dataNumber, dataNumber);
            copyRow(other.parityNumber, parityNumber);
            copyRow(other.owner, owner);
            copyRow(other.correct, correct);
            copyRow(other.place, place);
            copyRow(other.error, error);
        }

        boolean exists(int file) {
            return file >= 0 && file < MOST_FILES && dataNumber[file] > 0;
        }

        int dataOf(int file) {
            return file >= 0 && file < MOST_FILES ? dataNumber[file] : 0;
        }

        int fragmentNumber(int file) {
            return file >= 0 && file < MOST_FILES ? dataNumber[file] + parityNumber[file] : 0;
        }

        boolean hasFragment(int file, int fragment) {
            return fragment >= 0 && fragment < fragmentNumber(file);
        }

        boolean hasData(int file, int index) {
            return index >= 0 && index < dataOf(file);
        }

        int ownerOf(int file) {
            return file >= 0 && file < MOST_FILES ? owner[file] : NONE;
        }

        private static boolean isInRows(int file, int fragment) {
            return file >= 0 && file < MOST_FILES && fragment >= 0 && fragment < MOST_FRAGMENTS;
        }

        int placeOf(int file, int fragment) {
            return isInRows(file, fragment) ? place[file * MOST_FRAGMENTS + fragment] : NONE;
        }

        int correctValue(int file, int fragment) {
            return isInRows(file, fragment) ? correct[file * MOST_FRAGMENTS + fragment] : 0;
        }

        int errorOf(int file, int fragment) {
            return isInRows(file, fragment) ? error[file * MOST_FRAGMENTS + fragment] : 0;
        }

        int storedValue(int file, int fragment) {
            return (correctValue(file, fragment) + errorOf(file, fragment)) % FIELD;
        }

        boolean isStored(int file, int fragment) {
            return placeOf(file, fragment) != NONE;
        }

        boolean isSpoiled(int file, int fragment) {
            return isStored(file, fragment) && errorOf(file, fragment) != 0;
        }

        int fragmentOn(int file, int peer) {
            if (file < 0 || file >= MOST_FILES || peer == NONE) {
                return NONE;
            }
            int first = file * MOST_FRAGMENTS;
            for (int fragment = 0; fragment < MOST_FRAGMENTS; fragment++) {
                if (place[first + fragment] == peer) {
                    return fragment;
                }
            }
            return NONE;
        }

        int number() {
            int number = 0;
            for (int file = 0; file < MOST_FILES; file++) {
                if (exists(file)) {
                    number++;
                }
            }
            return number;
        }

        int lowestUnused() {
            for (int file = 0; file < MOST_FILES; file++) {
                if (!exists(file)) {
                    return file;
                }
            }
            return NONE;
        }

        int ownedBy(int peer) {
            int number = 0;
            for (int file = 0; file < MOST_FILES; file++) {
                if (exists(file) && ownerOf(file) == peer) {
                    number++;
                }
            }
            return number;
        }

        int storedNumber(int file) {
            int stored = 0;
            int fragments = fragmentNumber(file);
            for (int fragment = 0; fragment < fragments; fragment++) {
                if (isStored(file, fragment)) {
                    stored++;
                }
            }
            return stored;
        }

        int spoiledNumber(int file) {
            int spoiled = 0;
            int fragments = fragmentNumber(file);
            for (int fragment = 0; fragment < fragments; fragment++) {
                if (isSpoiled(file, fragment)) {
                    spoiled++;
                }
            }
            return spoiled;
        }

        int allStored() {
            int stored = 0;
            for (int file = 0; file < MOST_FILES; file++) {
                stored += storedNumber(file);
            }
            return stored;
        }

        int allSpoiled() {
            int spoiled = 0;
            for (int file = 0; file < MOST_FILES; file++) {
                spoiled += spoiledNumber(file);
            }
            return spoiled;
        }

        boolean isDecodingSet(int file, int set) {
            return exists(file) && set >= 0 && set < 1 << fragmentNumber(file)
                    && Integer.bitCount(set) == dataOf(file);
        }

        boolean isStoredSet(int file, int set) {
            int fragments = fragmentNumber(file);
            for (int fragment = 0; fragment < fragments; fragment++) {
                if ((set >> fragment & 1) == 1 && !isStored(file, fragment)) {
                    return false;
                }
            }
            return true;
        }

        void add(int file, int itsOwner, int[] words, int wordNumber, int parity) {
            int data = Math.min(Math.min(wordNumber, words.length), MOST_DATA);
            if (file < 0 || file >= MOST_FILES || parity < 0 || parity > MOST_PARITY) {
                return;
            }
            owner[file] = itsOwner;
            dataNumber[file] = data;
            parityNumber[file] = parity;
            int first = file * MOST_FRAGMENTS;
            for (int index = 0; index < data; index++) {
                correct[first + index] = words[index];
            }
            for (int row = 0; row < parity; row++) {
                correct[first + data + row] = parityWord(words, data, row);
            }
        }

        private static int parityWord(int[] words, int data, int row) {
            int sum = 0;
            for (int index = 0; index < data && index < words.length; index++) {
                sum += words[index] * power(index + 1, row);
            }
            return sum % FIELD;
        }

        void remove(int file) {
            if (exists(file)) {
                dataNumber[file] = 0;
                parityNumber[file] = 0;
                owner[file] = NONE;
            }
        }

        void setFragment(int file, int fragment, int peer, int itsError) {
            if (isInRows(file, fragment)) {
                place[file * MOST_FRAGMENTS + fragment] = peer;
                error[file * MOST_FRAGMENTS + fragment] = itsError;
            }
        }

        void addError(int file, int fragment, int amount) {
            if (isInRows(file, fragment)) {
                int at = file * MOST_FRAGMENTS + fragment;
                error[at] = (error[at] + amount) % FIELD;
            }
        }
    }

    /** All that undo restores. */
    private static final class State {
        final Peers peers = new Peers();
        final Files files = new Files();
        final int[] waiting = new int[MOST_DATA];
        int waitingNumber;

        void copyFrom(State other) {
            peers.copyFrom(other.peers);
            files.copyFrom(other.files);
            copyRow(other.waiting, waiting);
            waitingNumber = other.waitingNumber;
        }

        int addWaiting(int word) {
            if (waitingNumber >= 0 && waitingNumber < MOST_DATA) {
                waiting[waitingNumber] = word;
                waitingNumber++;
            }
            return waitingNumber;
        }

        boolean isGood(int file, int fragment) {
            return files.errorOf(file, fragment) == 0
                    && peers.isOnline(files.placeOf(file, fragment));
        }

        int goodNumber(int file) {
            int good = 0;
            int fragments = files.fragmentNumber(file);
            for (int fragment = 0; fragment < fragments; fragment++) {
                if (isGood(file, fragment)) {
                    good++;
                }
            }
            return good;
        }

        int reserveOf(int file) {
            return goodNumber(file) - files.dataOf(file);
        }

        boolean isSafe(int file) {
            return files.exists(file) && goodNumber(file) >= files.dataOf(file);
        }

        int safeNumber() {
            int safe = 0;
            for (int file = 0; file < MOST_FILES; file++) {
                if (isSafe(file)) {
                    safe++;
                }
            }
            return safe;
        }

        private int findPlace(int file) {
            int best = NONE;
            for (int peer = 0; peer < MOST_PEERS; peer++) {
                if (peers.isOnline(peer) && peers.freeSpace(peer) > 0
                        && files.fragmentOn(file, peer) == NONE
                        && peers.isBetterPlace(peer, best)) {
                    best = peer;
                }
            }
            return best;
        }

        private void putOn(int file, int fragment, int peer, int error) {
            files.setFragment(file, fragment, peer, error);
            peers.addLoad(peer, 1);
            peers.owe(files.ownerOf(file), peer, 1);
        }

        private void takeOff(int file, int fragment) {
            peers.addLoad(files.placeOf(file, fragment), -1);
            files.setFragment(file, fragment, NONE, 0);
        }

        void makeFile(int file, int owner, int parity) {
            files.add(file, owner, waiting, waitingNumber, parity);
            waitingNumber = 0;
            int fragments = files.fragmentNumber(file);
            for (int fragment = 0; fragment < fragments; fragment++) {
                int peer = findPlace(file);
                if (peer != NONE) {
                    putOn(file, fragment, peer, 0);
                }
            }
        }

        void removeFile(int file) {
            int fragments = files.fragmentNumber(file);
            for (int fragment = 0; fragment < fragments; fragment++) {
                takeOff(file, fragment);
            }
            files.remove(file);
        }

        boolean mayLeave(int peer) {
            return peers.isOnline(peer) && files.ownedBy(peer) == 0;
        }

        int leaveInOrder(int peer) {
            int lost = 0;
            for (int file = 0; file < MOST_FILES; file++) {
                int fragment = files.fragmentOn(file, peer);
                if (fragment != NONE && !move(file, fragment)) {
                    lost++;
                }
            }
            peers.remove(peer);
            return lost;
        }

        private boolean move(int file, int fragment) {
            // Found while the fragment still stands on its peer, so that this one is not taken.
            int to = findPlace(file);
            int error = files.errorOf(file, fragment);
            takeOff(file, fragment);
            if (to == NONE) {
                return false;
            }
            putOn(file, fragment, to, error);
            return true;
        }

        int removeCrashed(int peer) {
            int lost = 0;
            for (int file = 0; file < MOST_FILES; file++) {
                int fragment = files.fragmentOn(file, peer);
                if (files.ownerOf(file) == peer) {
                    removeFile(file);
                } else if (fragment != NONE) {
                    takeOff(file, fragment);
                    lost++;
                }
            }
            peers.remove(peer);
            return lost;
        }

        int renewFile(int file) {
            int renewed = 0;
            int fragments = files.fragmentNumber(file);
            for (int fragment = 0; fragment < fragments; fragment++) {
                if (!isGood(file, fragment) && renew(file, fragment)) {
                    renewed++;
                }
            }
            return renewed;
        }

        private boolean renew(int file, int fragment) {
            takeOff(file, fragment);
            int to = findPlace(file);
            if (to == NONE) {
                return false;
            }
            // Before the fragment stands anew, as it is not read for itself.
            oweReaders(file);
            putOn(file, fragment, to, 0);
            return true;
        }

        private void oweReaders(int file) {
            int fragments = files.fragmentNumber(file);
            int unread = files.dataOf(file);
            for (int fragment = 0; fragment < fragments && unread > 0; fragment++) {
                if (isGood(file, fragment)) {
                    peers.owe(files.ownerOf(file), files.placeOf(file, fragment), 1);
                    unread--;
                }
            }
        }

        boolean needsPeer(int file, int peer) {
            if (!isSafe(file) || reserveOf(file) > 0) {
                return false;
            }
            return isGood(file, files.fragmentOn(file, peer));
        }

        boolean bearsCrashes(int crashes) {
            for (int file = 0; file < MOST_FILES; file++) {
                if (isSafe(file) && canBreak(file, crashes)) {
                    return false;
                }
            }
            return true;
        }

        private boolean canBreak(int file, int crashes) {
            // A set of all peers has the owner in it, and the file does not count.
            if (crashes >= peers.number()) {
                return false;
            }
            // The worst set without the owner takes as many good fragments as it can.
            int good = goodNumber(file);
            int onOwner = files.fragmentOn(file, files.ownerOf(file));
            int onOthers = isGood(file, onOwner) ? good - 1 : good;
            return Math.min(crashes, onOthers) > good - files.dataOf(file);
        }
    }

    /** The latest states before changes, in rows that are made once and used again. */
    private static final class History {
        private final State[] states = new State[MOST_STATES];
        int number;

        History() {
            for (int at = 0; at < MOST_STATES; at++) {
                states[at] = new State();
            }
        }

        void record(State state) {
            if (number >= MOST_STATES) {
                dropOldest();
            }
            if (number >= 0 && number < MOST_STATES) {
                states[number].copyFrom(state);
                number++;
            }
        }

        private void dropOldest() {
            State oldest = states[0];
            for (int at = 1; at < MOST_STATES; at++) {
                states[at - 1] = states[at];
            }
            states[MOST_STATES - 1] = oldest;
            number = MOST_STATES - 1;
        }

        void restoreLatest(State state) {
            if (number > 0 && number <= MOST_STATES) {
                number--;
                state.copyFrom(states[number]);
            }
        }
    }

    /** What an audit sees: by how much each fragment in its order is wrong. */
    private static final class Challenge {
        private final int[] errors = new int[MOST_FILES];
        int number;

        void lookAt(Files files, int auditor, int peer) {
            number = 0;
            for (int file = 0; file < MOST_FILES; file++) {
                int fragment = files.fragmentOn(file, peer);
                if (fragment != NONE && files.ownerOf(file) == auditor) {
                    append(files.errorOf(file, fragment));
                }
            }
        }

        private void append(int error) {
            if (number >= 0 && number < MOST_FILES) {
                errors[number] = error;
                number++;
            }
        }

        // The two answers are equal if their difference, a polynomial of the errors, is 0.
        boolean isPassedWith(int seed) {
            int difference = 0;
            for (int at = Math.min(number, MOST_FILES) - 1; at >= 0; at--) {
                difference = (difference * seed + errors[at]) % FIELD;
            }
            return difference == 0;
        }
    }

    /** Solves for the data words; each row is a fragment: its factors, then its value. */
    private static final class Decoder {
        private static final int WIDTH = MOST_DATA + 1;
        private final int[] cells = new int[MOST_DATA * WIDTH];
        private int size;

        int dataWord(Files files, int file, int set, int index) {
            setUp(files, file, set);
            for (int column = 0; column < size; column++) {
                eliminate(column);
            }
            return index >= 0 && index < size ? cells[index * WIDTH + size] : 0;
        }

        private void setUp(Files files, int file, int set) {
            int data = Math.min(Integer.bitCount(set), MOST_DATA);
            size = 0;
            for (int fragment = 0; fragment < MOST_FRAGMENTS && size < data; fragment++) {
                if ((set >> fragment & 1) == 1) {
                    int first = size * WIDTH;
                    for (int column = 0; column < data; column++) {
                        cells[first + column] = factor(fragment, column, data);
                    }
                    cells[first + data] = files.storedValue(file, fragment);
                    size++;
                }
            }
        }

        private static int factor(int fragment, int column, int data) {
            if (fragment < data) {
                return fragment == column ? 1 : 0;
            }
            return power(column + 1, fragment - data);
        }

        private void eliminate(int column) {
            int pivot = column;
            while (pivot < size && cells[pivot * WIDTH + column] == 0) {
                pivot++;
            }
            // Any k fragments determine the file, so a pivot is always found.
            if (pivot >= size) {
                return;
            }
            swapRows(pivot, column);
            scaleRow(column, power(cells[column * WIDTH + column], FIELD - 2));
            for (int row = 0; row < size; row++) {
                if (row != column) {
                    subtractRow(column, cells[row * WIDTH + column], row);
                }
            }
        }

        private void swapRows(int row, int other) {
            for (int column = 0; column < WIDTH; column++) {
                int cell = cells[row * WIDTH + column];
                cells[row * WIDTH + column] = cells[other * WIDTH + column];
                cells[other * WIDTH + column] = cell;
            }
        }

        private void scaleRow(int row, int factor) {
            for (int column = 0; column <= size; column++) {
                int at = row * WIDTH + column;
                cells[at] = cells[at] * factor % FIELD;
            }
        }

        private void subtractRow(int row, int times, int from) {
            for (int column = 0; column <= size; column++) {
                int at = from * WIDTH + column;
                cells[at] = (cells[at] + (FIELD - times) * cells[row * WIDTH + column]) % FIELD;
            }
        }
    }
}
